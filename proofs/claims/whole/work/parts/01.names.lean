-- ===== PART A: goes FIRST, ahead of the names: the tables' words, and 'selects' of the private methods out of them =====
/-- a private method of a class that the tables say can be made, by its rows of tables_1 -/
def lw_okq (q : MethodName × Nat) : Prop := (q.1.cls ≠ "java/lang/invoke/MethodHandle" ∧ q.1.cls ≠ "java/lang/invoke/VarHandle") ∧ Cond.instantiable q.1.cls q.2 ∈ tables_1 ∧ Cond.privateMethod q.1 ∈ tables_1 ∧ Cond.instanceMethod q.1 ∈ tables_1
theorem lw_p0 : lw_okq (⟨"CatchShares", "findStock", "(I)LCatchShares$Stock;"⟩, 9) := ⟨⟨by decide +kernel, by decide +kernel⟩, List.mem_of_getElem? (i := 9) (by decide +kernel), List.mem_of_getElem? (i := 156) (by decide +kernel), List.mem_of_getElem? (i := 157) (by decide +kernel)⟩
theorem lw_p1 : lw_okq (⟨"CatchShares", "isHolder", "(I)Z"⟩, 9) := ⟨⟨by decide +kernel, by decide +kernel⟩, List.mem_of_getElem? (i := 9) (by decide +kernel), List.mem_of_getElem? (i := 160) (by decide +kernel), List.mem_of_getElem? (i := 161) (by decide +kernel)⟩
theorem lw_p2 : lw_okq (⟨"CatchShares$Stock", "rankByRest", "(IJJ)I"⟩, 11) := ⟨⟨by decide +kernel, by decide +kernel⟩, List.mem_of_getElem? (i := 97) (by decide +kernel), List.mem_of_getElem? (i := 188) (by decide +kernel), List.mem_of_getElem? (i := 189) (by decide +kernel)⟩
theorem lw_p3 : lw_okq (⟨"CatchShares$Stock", "restOf", "(IJJ)J"⟩, 11) := ⟨⟨by decide +kernel, by decide +kernel⟩, List.mem_of_getElem? (i := 97) (by decide +kernel), List.mem_of_getElem? (i := 192) (by decide +kernel), List.mem_of_getElem? (i := 193) (by decide +kernel)⟩
theorem lw_p4 : lw_okq (⟨"CatchShares", "carryOver", "(LCatchShares$Stock;LCatchShares$Stock;)V"⟩, 9) := ⟨⟨by decide +kernel, by decide +kernel⟩, List.mem_of_getElem? (i := 9) (by decide +kernel), List.mem_of_getElem? (i := 196) (by decide +kernel), List.mem_of_getElem? (i := 197) (by decide +kernel)⟩
theorem lw_p5 : lw_okq (⟨"CatchShares", "carriedOf", "(LCatchShares$Stock;I)J"⟩, 9) := ⟨⟨by decide +kernel, by decide +kernel⟩, List.mem_of_getElem? (i := 9) (by decide +kernel), List.mem_of_getElem? (i := 200) (by decide +kernel), List.mem_of_getElem? (i := 201) (by decide +kernel)⟩
theorem lw_p6 : lw_okq (⟨"CatchShares", "overOf", "(LCatchShares$Stock;I)J"⟩, 9) := ⟨⟨by decide +kernel, by decide +kernel⟩, List.mem_of_getElem? (i := 9) (by decide +kernel), List.mem_of_getElem? (i := 204) (by decide +kernel), List.mem_of_getElem? (i := 205) (by decide +kernel)⟩
theorem lw_p7 : lw_okq (⟨"CatchShares", "leftInAll", "(LCatchShares$Stock;I)J"⟩, 9) := ⟨⟨by decide +kernel, by decide +kernel⟩, List.mem_of_getElem? (i := 9) (by decide +kernel), List.mem_of_getElem? (i := 208) (by decide +kernel), List.mem_of_getElem? (i := 209) (by decide +kernel)⟩
theorem lw_p8 : lw_okq (⟨"CatchShares", "leftOn", "(LCatchShares$Stock;II)J"⟩, 9) := ⟨⟨by decide +kernel, by decide +kernel⟩, List.mem_of_getElem? (i := 9) (by decide +kernel), List.mem_of_getElem? (i := 213) (by decide +kernel), List.mem_of_getElem? (i := 214) (by decide +kernel)⟩
theorem lw_p9 : lw_okq (⟨"CatchShares", "holdOf", "(II)J"⟩, 9) := ⟨⟨by decide +kernel, by decide +kernel⟩, List.mem_of_getElem? (i := 9) (by decide +kernel), List.mem_of_getElem? (i := 307) (by decide +kernel), List.mem_of_getElem? (i := 308) (by decide +kernel)⟩
theorem lw_p10 : lw_okq (⟨"CatchShares$Owners", "lengthenWays", "()V"⟩, 4) := ⟨⟨by decide +kernel, by decide +kernel⟩, List.mem_of_getElem? (i := 43) (by decide +kernel), List.mem_of_getElem? (i := 316) (by decide +kernel), List.mem_of_getElem? (i := 317) (by decide +kernel)⟩
theorem lw_p11 : lw_okq (⟨"CatchShares", "isAboveCap", "(LCatchShares$Stock;)Z"⟩, 9) := ⟨⟨by decide +kernel, by decide +kernel⟩, List.mem_of_getElem? (i := 9) (by decide +kernel), List.mem_of_getElem? (i := 345) (by decide +kernel), List.mem_of_getElem? (i := 346) (by decide +kernel)⟩
theorem lw_p12 : lw_okq (⟨"CatchShares", "isScarcer", "(LCatchShares$Stock;LCatchShares$Stock;I)Z"⟩, 9) := ⟨⟨by decide +kernel, by decide +kernel⟩, List.mem_of_getElem? (i := 9) (by decide +kernel), List.mem_of_getElem? (i := 355) (by decide +kernel), List.mem_of_getElem? (i := 356) (by decide +kernel)⟩
theorem lw_p13 : lw_okq (⟨"CatchSharesModel", "isStock", "(I)Z"⟩, 25) := ⟨⟨by decide +kernel, by decide +kernel⟩, List.mem_of_getElem? (i := 389) (by decide +kernel), List.mem_of_getElem? (i := 492) (by decide +kernel), List.mem_of_getElem? (i := 493) (by decide +kernel)⟩
theorem lw_p14 : lw_okq (⟨"CatchSharesModel", "isHolder", "(I)Z"⟩, 25) := ⟨⟨by decide +kernel, by decide +kernel⟩, List.mem_of_getElem? (i := 389) (by decide +kernel), List.mem_of_getElem? (i := 496) (by decide +kernel), List.mem_of_getElem? (i := 497) (by decide +kernel)⟩
theorem lw_p15 : lw_okq (⟨"CatchSharesModel", "allWeights", "(I)J"⟩, 25) := ⟨⟨by decide +kernel, by decide +kernel⟩, List.mem_of_getElem? (i := 389) (by decide +kernel), List.mem_of_getElem? (i := 513) (by decide +kernel), List.mem_of_getElem? (i := 514) (by decide +kernel)⟩
def lw_privs_1 : List (MethodName × Nat) := [(⟨"CatchShares", "findStock", "(I)LCatchShares$Stock;"⟩, 9), (⟨"CatchShares", "isHolder", "(I)Z"⟩, 9), (⟨"CatchShares$Stock", "rankByRest", "(IJJ)I"⟩, 11), (⟨"CatchShares$Stock", "restOf", "(IJJ)J"⟩, 11), (⟨"CatchShares", "carryOver", "(LCatchShares$Stock;LCatchShares$Stock;)V"⟩, 9), (⟨"CatchShares", "carriedOf", "(LCatchShares$Stock;I)J"⟩, 9), (⟨"CatchShares", "overOf", "(LCatchShares$Stock;I)J"⟩, 9), (⟨"CatchShares", "leftInAll", "(LCatchShares$Stock;I)J"⟩, 9), (⟨"CatchShares", "leftOn", "(LCatchShares$Stock;II)J"⟩, 9), (⟨"CatchShares", "holdOf", "(II)J"⟩, 9), (⟨"CatchShares$Owners", "lengthenWays", "()V"⟩, 4), (⟨"CatchShares", "isAboveCap", "(LCatchShares$Stock;)Z"⟩, 9), (⟨"CatchShares", "isScarcer", "(LCatchShares$Stock;LCatchShares$Stock;I)Z"⟩, 9), (⟨"CatchSharesModel", "isStock", "(I)Z"⟩, 25), (⟨"CatchSharesModel", "isHolder", "(I)Z"⟩, 25), (⟨"CatchSharesModel", "allWeights", "(I)J"⟩, 25)]
theorem lw_r1 : ∀ q ∈ lw_privs_1, lw_okq q := List.forall_mem_cons.mpr ⟨lw_p0, List.forall_mem_cons.mpr ⟨lw_p1, List.forall_mem_cons.mpr ⟨lw_p2, List.forall_mem_cons.mpr ⟨lw_p3, List.forall_mem_cons.mpr ⟨lw_p4, List.forall_mem_cons.mpr ⟨lw_p5, List.forall_mem_cons.mpr ⟨lw_p6, List.forall_mem_cons.mpr ⟨lw_p7, List.forall_mem_cons.mpr ⟨lw_p8, List.forall_mem_cons.mpr ⟨lw_p9, List.forall_mem_cons.mpr ⟨lw_p10, List.forall_mem_cons.mpr ⟨lw_p11, List.forall_mem_cons.mpr ⟨lw_p12, List.forall_mem_cons.mpr ⟨lw_p13, List.forall_mem_cons.mpr ⟨lw_p14, List.forall_mem_cons.mpr ⟨lw_p15, fun _ h => absurd h List.not_mem_nil⟩⟩⟩⟩⟩⟩⟩⟩⟩⟩⟩⟩⟩⟩⟩⟩
theorem lw_p16 : lw_okq (⟨"CatchSharesModel", "carriedOf", "(II)J"⟩, 25) := ⟨⟨by decide +kernel, by decide +kernel⟩, List.mem_of_getElem? (i := 389) (by decide +kernel), List.mem_of_getElem? (i := 518) (by decide +kernel), List.mem_of_getElem? (i := 519) (by decide +kernel)⟩
theorem lw_p17 : lw_okq (⟨"CatchSharesModel", "overOf", "(II)J"⟩, 25) := ⟨⟨by decide +kernel, by decide +kernel⟩, List.mem_of_getElem? (i := 389) (by decide +kernel), List.mem_of_getElem? (i := 522) (by decide +kernel), List.mem_of_getElem? (i := 523) (by decide +kernel)⟩
theorem lw_p18 : lw_okq (⟨"CatchSharesModel", "leftOf", "(II)J"⟩, 25) := ⟨⟨by decide +kernel, by decide +kernel⟩, List.mem_of_getElem? (i := 389) (by decide +kernel), List.mem_of_getElem? (i := 526) (by decide +kernel), List.mem_of_getElem? (i := 527) (by decide +kernel)⟩
theorem lw_p19 : lw_okq (⟨"CatchSharesModel", "leftOn", "(III)J"⟩, 25) := ⟨⟨by decide +kernel, by decide +kernel⟩, List.mem_of_getElem? (i := 389) (by decide +kernel), List.mem_of_getElem? (i := 531) (by decide +kernel), List.mem_of_getElem? (i := 532) (by decide +kernel)⟩
theorem lw_p20 : lw_okq (⟨"CatchSharesModel", "allShares", "(I)J"⟩, 25) := ⟨⟨by decide +kernel, by decide +kernel⟩, List.mem_of_getElem? (i := 389) (by decide +kernel), List.mem_of_getElem? (i := 570) (by decide +kernel), List.mem_of_getElem? (i := 571) (by decide +kernel)⟩
theorem lw_p21 : lw_okq (⟨"CatchSharesModel", "reaches", "(II)Z"⟩, 25) := ⟨⟨by decide +kernel, by decide +kernel⟩, List.mem_of_getElem? (i := 389) (by decide +kernel), List.mem_of_getElem? (i := 589) (by decide +kernel), List.mem_of_getElem? (i := 590) (by decide +kernel)⟩
theorem lw_p22 : lw_okq (⟨"CatchSharesModel", "findHolds", "(I)V"⟩, 25) := ⟨⟨by decide +kernel, by decide +kernel⟩, List.mem_of_getElem? (i := 389) (by decide +kernel), List.mem_of_getElem? (i := 597) (by decide +kernel), List.mem_of_getElem? (i := 598) (by decide +kernel)⟩
theorem lw_p23 : lw_okq (⟨"CatchSharesModel", "isAbove", "(I)Z"⟩, 25) := ⟨⟨by decide +kernel, by decide +kernel⟩, List.mem_of_getElem? (i := 389) (by decide +kernel), List.mem_of_getElem? (i := 609) (by decide +kernel), List.mem_of_getElem? (i := 610) (by decide +kernel)⟩
theorem lw_p24 : lw_okq (⟨"CatchSharesModel", "allLandings", "(I)J"⟩, 25) := ⟨⟨by decide +kernel, by decide +kernel⟩, List.mem_of_getElem? (i := 389) (by decide +kernel), List.mem_of_getElem? (i := 636) (by decide +kernel), List.mem_of_getElem? (i := 637) (by decide +kernel)⟩
def lw_privs_2 : List (MethodName × Nat) := [(⟨"CatchSharesModel", "carriedOf", "(II)J"⟩, 25), (⟨"CatchSharesModel", "overOf", "(II)J"⟩, 25), (⟨"CatchSharesModel", "leftOf", "(II)J"⟩, 25), (⟨"CatchSharesModel", "leftOn", "(III)J"⟩, 25), (⟨"CatchSharesModel", "allShares", "(I)J"⟩, 25), (⟨"CatchSharesModel", "reaches", "(II)Z"⟩, 25), (⟨"CatchSharesModel", "findHolds", "(I)V"⟩, 25), (⟨"CatchSharesModel", "isAbove", "(I)Z"⟩, 25), (⟨"CatchSharesModel", "allLandings", "(I)J"⟩, 25)]
theorem lw_r2 : ∀ q ∈ lw_privs_2, lw_okq q := List.forall_mem_cons.mpr ⟨lw_p16, List.forall_mem_cons.mpr ⟨lw_p17, List.forall_mem_cons.mpr ⟨lw_p18, List.forall_mem_cons.mpr ⟨lw_p19, List.forall_mem_cons.mpr ⟨lw_p20, List.forall_mem_cons.mpr ⟨lw_p21, List.forall_mem_cons.mpr ⟨lw_p22, List.forall_mem_cons.mpr ⟨lw_p23, List.forall_mem_cons.mpr ⟨lw_p24, fun _ h => absurd h List.not_mem_nil⟩⟩⟩⟩⟩⟩⟩⟩⟩
def lw_privs : List (MethodName × Nat) := lw_privs_1 ++ (lw_privs_2)
def lw_tbl : List Cond := k2_sels lw_privs ++ tables_1
theorem lw_privs_ok : ∀ q ∈ lw_privs, lw_okq q := by
  show ∀ q ∈ lw_privs_1 ++ (lw_privs_2), lw_okq q
  exact List.forall_mem_append.mpr ⟨lw_r1, lw_r2⟩
def na_L : String := "CatchShares$Landings"
def fT_L : u_T := fun k => match k with
  | 0 => ("CatchShares$Landings", "stockNumbers", "[I", true)
  | 1 => ("CatchShares$Landings", "holderNumbers", "[I", true)
  | 2 => ("CatchShares$Landings", "caught", "[J", true)
  | 3 => ("CatchShares$Landings", "toldDays", "[I", true)
  | _ => ("CatchShares$Landings", "count", "I", false)
def ft_L : Nat → FieldType := fun k => match k with
  | 0 => .array .int
  | 1 => .array .int
  | 2 => .array .long
  | 3 => .array .int
  | _ => .int
theorem fn_L : ∀ a, a < 5 → ∀ b, b < 5 → a ≠ b → (fT_L a).2.1 ≠ (fT_L b).2.1 := by decide +kernel
theorem fo_L : ∀ k, k < 5 → parseFieldDescriptor (fT_L k).2.2.1 = some (ft_L k) := by decide +kernel
def na_O : String := "CatchShares$Owners"
def fT_O : u_T := fun k => match k with
  | 0 => ("CatchShares$Owners", "parts", "[I", true)
  | 1 => ("CatchShares$Owners", "ways", "[J", true)
  | 2 => ("CatchShares$Owners", "longerWays", "[J", true)
  | _ => ("CatchShares$Owners", "holds", "[J", true)
def ft_O : Nat → FieldType := fun k => match k with
  | 0 => .array .int
  | 1 => .array .long
  | 2 => .array .long
  | _ => .array .long
theorem fn_O : ∀ a, a < 4 → ∀ b, b < 4 → a ≠ b → (fT_O a).2.1 ≠ (fT_O b).2.1 := by decide +kernel
theorem fo_O : ∀ k, k < 4 → parseFieldDescriptor (fT_O k).2.2.1 = some (ft_O k) := by decide +kernel
def na_S : String := "CatchShares$Stock"
def fT_S : u_T := fun k => match k with
  | 0 => ("CatchShares$Stock", "number", "I", true)
  | 1 => ("CatchShares$Stock", "allowed", "J", true)
  | 2 => ("CatchShares$Stock", "weights", "[J", true)
  | 3 => ("CatchShares$Stock", "shares", "[J", true)
  | 4 => ("CatchShares$Stock", "setAside", "J", false)
  | 5 => ("CatchShares$Stock", "parted", "Z", false)
  | 6 => ("CatchShares$Stock", "followed", "I", false)
  | 7 => ("CatchShares$Stock", "capHundredths", "I", false)
  | 8 => ("CatchShares$Stock", "keptSeen", "J", false)
  | 9 => ("CatchShares$Stock", "thrownSeen", "J", false)
  | _ => ("CatchShares$Stock", "dueShares", "J", false)
def ft_S : Nat → FieldType := fun k => match k with
  | 0 => .int
  | 1 => .long
  | 2 => .array .long
  | 3 => .array .long
  | 4 => .long
  | 5 => .boolean
  | 6 => .int
  | 7 => .int
  | 8 => .long
  | 9 => .long
  | _ => .long
theorem fn_S : ∀ a, a < 11 → ∀ b, b < 11 → a ≠ b → (fT_S a).2.1 ≠ (fT_S b).2.1 := by decide +kernel
theorem fo_S : ∀ k, k < 11 → parseFieldDescriptor (fT_S k).2.2.1 = some (ft_S k) := by decide +kernel
def na_C : String := "CatchShares"
def fT_C : u_T := fun k => match k with
  | 0 => ("CatchShares", "stocks", "[LCatchShares$Stock;", true)
  | 1 => ("CatchShares", "stockCount", "I", false)
  | 2 => ("CatchShares", "ownerOf", "[I", true)
  | 3 => ("CatchShares", "poolOf", "[I", true)
  | 4 => ("CatchShares", "holderCount", "I", false)
  | 5 => ("CatchShares", "landings", "LCatchShares$Landings;", true)
  | 6 => ("CatchShares", "owners", "LCatchShares$Owners;", true)
  | 7 => ("CatchShares", "penaltyAbove", "I", false)
  | _ => ("CatchShares", "penaltyBelow", "I", false)
def ft_C : Nat → FieldType := fun k => match k with
  | 0 => .array (.object "CatchShares$Stock")
  | 1 => .int
  | 2 => .array .int
  | 3 => .array .int
  | 4 => .int
  | 5 => .object "CatchShares$Landings"
  | 6 => .object "CatchShares$Owners"
  | 7 => .int
  | _ => .int
theorem fn_C : ∀ a, a < 9 → ∀ b, b < 9 → a ≠ b → (fT_C a).2.1 ≠ (fT_C b).2.1 := by decide +kernel
theorem fo_C : ∀ k, k < 9 → parseFieldDescriptor (fT_C k).2.2.1 = some (ft_C k) := by decide +kernel
def na_M : String := "CatchSharesModel"
def fT_M : u_T := fun k => match k with
  | 0 => ("CatchSharesModel", "stocks", "I", false)
  | 1 => ("CatchSharesModel", "allowed", "[J", true)
  | 2 => ("CatchSharesModel", "aside", "[J", true)
  | 3 => ("CatchSharesModel", "follows", "[I", true)
  | 4 => ("CatchSharesModel", "isParted", "[Z", true)
  | 5 => ("CatchSharesModel", "caps", "[I", true)
  | 6 => ("CatchSharesModel", "extra", "[J", true)
  | 7 => ("CatchSharesModel", "kept", "[J", true)
  | 8 => ("CatchSharesModel", "thrownBack", "[J", true)
  | 9 => ("CatchSharesModel", "holders", "I", false)
  | 10 => ("CatchSharesModel", "owners", "[I", true)
  | 11 => ("CatchSharesModel", "pools", "[I", true)
  | 12 => ("CatchSharesModel", "weights", "[J", true)
  | 13 => ("CatchSharesModel", "shares", "[J", true)
  | 14 => ("CatchSharesModel", "rests", "[J", true)
  | 15 => ("CatchSharesModel", "landings", "I", false)
  | 16 => ("CatchSharesModel", "landedWhere", "[I", true)
  | 17 => ("CatchSharesModel", "landed", "[J", true)
  | 18 => ("CatchSharesModel", "toldOn", "[I", true)
  | 19 => ("CatchSharesModel", "penaltyAbove", "I", false)
  | 20 => ("CatchSharesModel", "penaltyBelow", "I", false)
  | 21 => ("CatchSharesModel", "own", "[I", true)
  | 22 => ("CatchSharesModel", "holds", "[J", true)
  | 23 => ("CatchSharesModel", "next", "[J", true)
  | _ => ("CatchSharesModel", "all", "[J", true)
def ft_M : Nat → FieldType := fun k => match k with
  | 0 => .int
  | 1 => .array .long
  | 2 => .array .long
  | 3 => .array .int
  | 4 => .array .boolean
  | 5 => .array .int
  | 6 => .array .long
  | 7 => .array .long
  | 8 => .array .long
  | 9 => .int
  | 10 => .array .int
  | 11 => .array .int
  | 12 => .array .long
  | 13 => .array .long
  | 14 => .array .long
  | 15 => .int
  | 16 => .array .int
  | 17 => .array .long
  | 18 => .array .int
  | 19 => .int
  | 20 => .int
  | 21 => .array .int
  | 22 => .array .long
  | 23 => .array .long
  | _ => .array .long
theorem fn_M : ∀ a, a < 25 → ∀ b, b < 25 → a ≠ b → (fT_M a).2.1 ≠ (fT_M b).2.1 := by decide +kernel
theorem fo_M : ∀ k, k < 25 → parseFieldDescriptor (fT_M k).2.2.1 = some (ft_M k) := by decide +kernel
abbrev vw_cl : List vw_C := [(na_L, fT_L, 5), (na_O, fT_O, 4), (na_S, fT_S, 11), (na_C, fT_C, 9), (na_M, fT_M, 25)]
abbrev bc_L_init : ByteArray := prog_2_method_1_code
def mn_L_init : MethodName := ⟨"CatchShares$Landings", "<init>", "()V"⟩
abbrev bc_L_add : ByteArray := prog_2_method_2_code
def mn_L_add : MethodName := ⟨"CatchShares$Landings", "add", "(IIJI)Z"⟩
abbrev bc_L_toldUpTo : ByteArray := prog_2_method_3_code
def mn_L_toldUpTo : MethodName := ⟨"CatchShares$Landings", "toldUpTo", "(III)J"⟩
abbrev bc_L_ofStock : ByteArray := prog_2_method_4_code
def mn_L_ofStock : MethodName := ⟨"CatchShares$Landings", "ofStock", "(I)J"⟩
abbrev bc_O_init : ByteArray := prog_3_method_1_code
def mn_O_init : MethodName := ⟨"CatchShares$Owners", "<init>", "()V"⟩
abbrev bc_O_setPart : ByteArray := prog_3_method_2_code
def mn_O_setPart : MethodName := ⟨"CatchShares$Owners", "setPart", "(III)Z"⟩
abbrev bc_O_findHolds : ByteArray := prog_3_method_3_code
def mn_O_findHolds : MethodName := ⟨"CatchShares$Owners", "findHolds", "(I)V"⟩
abbrev bc_O_found : ByteArray := prog_3_method_4_code
def mn_O_found : MethodName := ⟨"CatchShares$Owners", "found", "(I)J"⟩
abbrev bc_O_lengthenWays : ByteArray := prog_3_method_5_code
def mn_O_lengthenWays : MethodName := ⟨"CatchShares$Owners", "lengthenWays", "()V"⟩
abbrev bc_S_init : ByteArray := prog_4_method_1_code
def mn_S_init : MethodName := ⟨"CatchShares$Stock", "<init>", "(IJ)V"⟩
abbrev bc_S_allWeights : ByteArray := prog_4_method_2_code
def mn_S_allWeights : MethodName := ⟨"CatchShares$Stock", "allWeights", "()J"⟩
abbrev bc_S_allShares : ByteArray := prog_4_method_3_code
def mn_S_allShares : MethodName := ⟨"CatchShares$Stock", "allShares", "()J"⟩
abbrev bc_S_sumOf : ByteArray := prog_4_method_4_code
def mn_S_sumOf : MethodName := ⟨"CatchShares$Stock", "sumOf", "([J)J"⟩
abbrev bc_S_countShares : ByteArray := prog_4_method_5_code
def mn_S_countShares : MethodName := ⟨"CatchShares$Stock", "countShares", "()I"⟩
abbrev bc_S_shareOut : ByteArray := prog_4_method_6_code
def mn_S_shareOut : MethodName := ⟨"CatchShares$Stock", "shareOut", "()Z"⟩
abbrev bc_S_rankByRest : ByteArray := prog_4_method_7_code
def mn_S_rankByRest : MethodName := ⟨"CatchShares$Stock", "rankByRest", "(IJJ)I"⟩
abbrev bc_S_restOf : ByteArray := prog_4_method_8_code
def mn_S_restOf : MethodName := ⟨"CatchShares$Stock", "restOf", "(IJJ)J"⟩
abbrev bc_S_carryIn : ByteArray := prog_4_method_9_code
def mn_S_carryIn : MethodName := ⟨"CatchShares$Stock", "carryIn", "(IJ)V"⟩
abbrev bc_S_swapShare : ByteArray := prog_4_method_10_code
def mn_S_swapShare : MethodName := ⟨"CatchShares$Stock", "swapShare", "(IJ)V"⟩
abbrev bc_C_init : ByteArray := prog_1_method_1_code
def mn_C_init : MethodName := ⟨"CatchShares", "<init>", "()V"⟩
abbrev bc_C_stock : ByteArray := prog_1_method_2_code
def mn_C_stock : MethodName := ⟨"CatchShares", "stock", "(J)I"⟩
abbrev bc_C_holder : ByteArray := prog_1_method_3_code
def mn_C_holder : MethodName := ⟨"CatchShares", "holder", "(I)I"⟩
abbrev bc_C_weight : ByteArray := prog_1_method_4_code
def mn_C_weight : MethodName := ⟨"CatchShares", "weight", "(IIJ)Z"⟩
abbrev bc_C_aside : ByteArray := prog_1_method_5_code
def mn_C_aside : MethodName := ⟨"CatchShares", "aside", "(IJ)Z"⟩
abbrev bc_C_follows : ByteArray := prog_1_method_6_code
def mn_C_follows : MethodName := ⟨"CatchShares", "follows", "(II)Z"⟩
abbrev bc_C_part : ByteArray := prog_1_method_7_code
def mn_C_part : MethodName := ⟨"CatchShares", "part", "(I)I"⟩
abbrev bc_C_given : ByteArray := prog_1_method_8_code
def mn_C_given : MethodName := ⟨"CatchShares", "given", "(II)J"⟩
abbrev bc_C_land : ByteArray := prog_1_method_9_code
def mn_C_land : MethodName := ⟨"CatchShares", "land", "(IIJII)Z"⟩
abbrev bc_C_left : ByteArray := prog_1_method_10_code
def mn_C_left : MethodName := ⟨"CatchShares", "left", "(III)J"⟩
abbrev bc_C_transfer : ByteArray := prog_1_method_11_code
def mn_C_transfer : MethodName := ⟨"CatchShares", "transfer", "(IIIJ)I"⟩
abbrev bc_C_swap : ByteArray := prog_1_method_12_code
def mn_C_swap : MethodName := ⟨"CatchShares", "swap", "(IIIIIJ)I"⟩
abbrev bc_C_over : ByteArray := prog_1_method_13_code
def mn_C_over : MethodName := ⟨"CatchShares", "over", "(II)J"⟩
abbrev bc_C_carried : ByteArray := prog_1_method_14_code
def mn_C_carried : MethodName := ⟨"CatchShares", "carried", "(II)J"⟩
abbrev bc_C_penalty : ByteArray := prog_1_method_15_code
def mn_C_penalty : MethodName := ⟨"CatchShares", "penalty", "(II)Z"⟩
abbrev bc_C_into : ByteArray := prog_1_method_16_code
def mn_C_into : MethodName := ⟨"CatchShares", "into", "(II)Z"⟩
abbrev bc_C_pooled : ByteArray := prog_1_method_17_code
def mn_C_pooled : MethodName := ⟨"CatchShares", "pooled", "(II)J"⟩
abbrev bc_C_owns : ByteArray := prog_1_method_18_code
def mn_C_owns : MethodName := ⟨"CatchShares", "owns", "(III)Z"⟩
abbrev bc_C_hold : ByteArray := prog_1_method_19_code
def mn_C_hold : MethodName := ⟨"CatchShares", "hold", "(II)J"⟩
abbrev bc_C_cap : ByteArray := prog_1_method_20_code
def mn_C_cap : MethodName := ⟨"CatchShares", "cap", "(II)Z"⟩
abbrev bc_C_capped : ByteArray := prog_1_method_21_code
def mn_C_capped : MethodName := ⟨"CatchShares", "capped", "(I)Z"⟩
abbrev bc_C_choke : ByteArray := prog_1_method_22_code
def mn_C_choke : MethodName := ⟨"CatchShares", "choke", "(I)I"⟩
abbrev bc_C_closes : ByteArray := prog_1_method_23_code
def mn_C_closes : MethodName := ⟨"CatchShares", "closes", "(IJ)J"⟩
abbrev bc_C_seen : ByteArray := prog_1_method_24_code
def mn_C_seen : MethodName := ⟨"CatchShares", "seen", "(IJJ)Z"⟩
abbrev bc_C_discard : ByteArray := prog_1_method_25_code
def mn_C_discard : MethodName := ⟨"CatchShares", "discard", "(I)J"⟩
abbrev bc_C_told : ByteArray := prog_1_method_26_code
def mn_C_told : MethodName := ⟨"CatchShares", "told", "(II)J"⟩
abbrev bc_C_sums : ByteArray := prog_1_method_27_code
def mn_C_sums : MethodName := ⟨"CatchShares", "sums", "(I)Z"⟩
abbrev bc_C_isWithin : ByteArray := prog_1_method_28_code
def mn_C_isWithin : MethodName := ⟨"CatchShares", "isWithin", "(JJJ)Z"⟩
abbrev bc_C_isFraction : ByteArray := prog_1_method_29_code
def mn_C_isFraction : MethodName := ⟨"CatchShares", "isFraction", "(II)Z"⟩
abbrev bc_C_dividedUp : ByteArray := prog_1_method_30_code
def mn_C_dividedUp : MethodName := ⟨"CatchShares", "dividedUp", "(JJ)J"⟩
abbrev bc_C_isOwner : ByteArray := prog_1_method_31_code
def mn_C_isOwner : MethodName := ⟨"CatchShares", "isOwner", "(I)Z"⟩
abbrev bc_C_isPool : ByteArray := prog_1_method_32_code
def mn_C_isPool : MethodName := ⟨"CatchShares", "isPool", "(I)Z"⟩
abbrev bc_C_isHolder : ByteArray := prog_1_method_33_code
def mn_C_isHolder : MethodName := ⟨"CatchShares", "isHolder", "(I)Z"⟩
abbrev bc_C_findStock : ByteArray := prog_1_method_34_code
def mn_C_findStock : MethodName := ⟨"CatchShares", "findStock", "(I)LCatchShares$Stock;"⟩
abbrev bc_C_leftOn : ByteArray := prog_1_method_35_code
def mn_C_leftOn : MethodName := ⟨"CatchShares", "leftOn", "(LCatchShares$Stock;II)J"⟩
abbrev bc_C_leftInAll : ByteArray := prog_1_method_36_code
def mn_C_leftInAll : MethodName := ⟨"CatchShares", "leftInAll", "(LCatchShares$Stock;I)J"⟩
abbrev bc_C_overOf : ByteArray := prog_1_method_37_code
def mn_C_overOf : MethodName := ⟨"CatchShares", "overOf", "(LCatchShares$Stock;I)J"⟩
abbrev bc_C_carriedOf : ByteArray := prog_1_method_38_code
def mn_C_carriedOf : MethodName := ⟨"CatchShares", "carriedOf", "(LCatchShares$Stock;I)J"⟩
abbrev bc_C_carryOver : ByteArray := prog_1_method_39_code
def mn_C_carryOver : MethodName := ⟨"CatchShares", "carryOver", "(LCatchShares$Stock;LCatchShares$Stock;)V"⟩
abbrev bc_C_holdOf : ByteArray := prog_1_method_40_code
def mn_C_holdOf : MethodName := ⟨"CatchShares", "holdOf", "(II)J"⟩
abbrev bc_C_isAboveCap : ByteArray := prog_1_method_41_code
def mn_C_isAboveCap : MethodName := ⟨"CatchShares", "isAboveCap", "(LCatchShares$Stock;)Z"⟩
abbrev bc_C_isScarcer : ByteArray := prog_1_method_42_code
def mn_C_isScarcer : MethodName := ⟨"CatchShares", "isScarcer", "(LCatchShares$Stock;LCatchShares$Stock;I)Z"⟩
abbrev bc_M_init : ByteArray := prog_6_method_1_code
def mn_M_init : MethodName := ⟨"CatchSharesModel", "<init>", "()V"⟩
abbrev bc_M_in : ByteArray := prog_6_method_2_code
def mn_M_in : MethodName := ⟨"CatchSharesModel", "in", "(JJJ)Z"⟩
abbrev bc_M_isStock : ByteArray := prog_6_method_3_code
def mn_M_isStock : MethodName := ⟨"CatchSharesModel", "isStock", "(I)Z"⟩
abbrev bc_M_isHolder : ByteArray := prog_6_method_4_code
def mn_M_isHolder : MethodName := ⟨"CatchSharesModel", "isHolder", "(I)Z"⟩
abbrev bc_M_isOwner : ByteArray := prog_6_method_5_code
def mn_M_isOwner : MethodName := ⟨"CatchSharesModel", "isOwner", "(I)Z"⟩
abbrev bc_M_stock : ByteArray := prog_6_method_6_code
def mn_M_stock : MethodName := ⟨"CatchSharesModel", "stock", "(J)I"⟩
abbrev bc_M_holder : ByteArray := prog_6_method_7_code
def mn_M_holder : MethodName := ⟨"CatchSharesModel", "holder", "(I)I"⟩
abbrev bc_M_weight : ByteArray := prog_6_method_8_code
def mn_M_weight : MethodName := ⟨"CatchSharesModel", "weight", "(IIJ)Z"⟩
abbrev bc_M_aside : ByteArray := prog_6_method_9_code
def mn_M_aside : MethodName := ⟨"CatchSharesModel", "aside", "(IJ)Z"⟩
abbrev bc_M_follows : ByteArray := prog_6_method_10_code
def mn_M_follows : MethodName := ⟨"CatchSharesModel", "follows", "(II)Z"⟩
abbrev bc_M_allWeights : ByteArray := prog_6_method_11_code
def mn_M_allWeights : MethodName := ⟨"CatchSharesModel", "allWeights", "(I)J"⟩
abbrev bc_M_allShares : ByteArray := prog_6_method_12_code
def mn_M_allShares : MethodName := ⟨"CatchSharesModel", "allShares", "(I)J"⟩
abbrev bc_M_part : ByteArray := prog_6_method_13_code
def mn_M_part : MethodName := ⟨"CatchSharesModel", "part", "(I)I"⟩
abbrev bc_M_given : ByteArray := prog_6_method_14_code
def mn_M_given : MethodName := ⟨"CatchSharesModel", "given", "(II)J"⟩
abbrev bc_M_land : ByteArray := prog_6_method_15_code
def mn_M_land : MethodName := ⟨"CatchSharesModel", "land", "(IIJII)Z"⟩
abbrev bc_M_leftOn : ByteArray := prog_6_method_16_code
def mn_M_leftOn : MethodName := ⟨"CatchSharesModel", "leftOn", "(III)J"⟩
abbrev bc_M_leftOf : ByteArray := prog_6_method_17_code
def mn_M_leftOf : MethodName := ⟨"CatchSharesModel", "leftOf", "(II)J"⟩
abbrev bc_M_left : ByteArray := prog_6_method_18_code
def mn_M_left : MethodName := ⟨"CatchSharesModel", "left", "(III)J"⟩
abbrev bc_M_overOf : ByteArray := prog_6_method_19_code
def mn_M_overOf : MethodName := ⟨"CatchSharesModel", "overOf", "(II)J"⟩
abbrev bc_M_carriedOf : ByteArray := prog_6_method_20_code
def mn_M_carriedOf : MethodName := ⟨"CatchSharesModel", "carriedOf", "(II)J"⟩
abbrev bc_M_over : ByteArray := prog_6_method_21_code
def mn_M_over : MethodName := ⟨"CatchSharesModel", "over", "(II)J"⟩
abbrev bc_M_carried : ByteArray := prog_6_method_22_code
def mn_M_carried : MethodName := ⟨"CatchSharesModel", "carried", "(II)J"⟩
abbrev bc_M_penalty : ByteArray := prog_6_method_23_code
def mn_M_penalty : MethodName := ⟨"CatchSharesModel", "penalty", "(II)Z"⟩
abbrev bc_M_transfer : ByteArray := prog_6_method_24_code
def mn_M_transfer : MethodName := ⟨"CatchSharesModel", "transfer", "(IIIJ)I"⟩
abbrev bc_M_swap : ByteArray := prog_6_method_25_code
def mn_M_swap : MethodName := ⟨"CatchSharesModel", "swap", "(IIIIIJ)I"⟩
abbrev bc_M_into : ByteArray := prog_6_method_26_code
def mn_M_into : MethodName := ⟨"CatchSharesModel", "into", "(II)Z"⟩
abbrev bc_M_pooled : ByteArray := prog_6_method_27_code
def mn_M_pooled : MethodName := ⟨"CatchSharesModel", "pooled", "(II)J"⟩
abbrev bc_M_reaches : ByteArray := prog_6_method_28_code
def mn_M_reaches : MethodName := ⟨"CatchSharesModel", "reaches", "(II)Z"⟩
abbrev bc_M_owns : ByteArray := prog_6_method_29_code
def mn_M_owns : MethodName := ⟨"CatchSharesModel", "owns", "(III)Z"⟩
abbrev bc_M_findHolds : ByteArray := prog_6_method_30_code
def mn_M_findHolds : MethodName := ⟨"CatchSharesModel", "findHolds", "(I)V"⟩
abbrev bc_M_hold : ByteArray := prog_6_method_31_code
def mn_M_hold : MethodName := ⟨"CatchSharesModel", "hold", "(II)J"⟩
abbrev bc_M_cap : ByteArray := prog_6_method_32_code
def mn_M_cap : MethodName := ⟨"CatchSharesModel", "cap", "(II)Z"⟩
abbrev bc_M_isAbove : ByteArray := prog_6_method_33_code
def mn_M_isAbove : MethodName := ⟨"CatchSharesModel", "isAbove", "(I)Z"⟩
abbrev bc_M_capped : ByteArray := prog_6_method_34_code
def mn_M_capped : MethodName := ⟨"CatchSharesModel", "capped", "(I)Z"⟩
abbrev bc_M_isLess : ByteArray := prog_6_method_35_code
def mn_M_isLess : MethodName := ⟨"CatchSharesModel", "isLess", "(JJJJ)Z"⟩
abbrev bc_M_down : ByteArray := prog_6_method_36_code
def mn_M_down : MethodName := ⟨"CatchSharesModel", "down", "(JJ)J"⟩
abbrev bc_M_choke : ByteArray := prog_6_method_37_code
def mn_M_choke : MethodName := ⟨"CatchSharesModel", "choke", "(I)I"⟩
abbrev bc_M_closes : ByteArray := prog_6_method_38_code
def mn_M_closes : MethodName := ⟨"CatchSharesModel", "closes", "(IJ)J"⟩
abbrev bc_M_seen : ByteArray := prog_6_method_39_code
def mn_M_seen : MethodName := ⟨"CatchSharesModel", "seen", "(IJJ)Z"⟩
abbrev bc_M_allLandings : ByteArray := prog_6_method_40_code
def mn_M_allLandings : MethodName := ⟨"CatchSharesModel", "allLandings", "(I)J"⟩
abbrev bc_M_discard : ByteArray := prog_6_method_41_code
def mn_M_discard : MethodName := ⟨"CatchSharesModel", "discard", "(I)J"⟩
abbrev bc_M_told : ByteArray := prog_6_method_42_code
def mn_M_told : MethodName := ⟨"CatchSharesModel", "told", "(II)J"⟩
abbrev bc_M_sums : ByteArray := prog_6_method_43_code
def mn_M_sums : MethodName := ⟨"CatchSharesModel", "sums", "(I)Z"⟩
abbrev bc_W_law : ByteArray := code
abbrev bc_J_floorDiv : ByteArray := prog_7_method_49_code
def mn_J_floorDiv : MethodName := ⟨"java/lang/Math", "floorDiv", "(JJ)J"⟩
abbrev bc_J_floorMod : ByteArray := prog_7_method_52_code
def mn_J_floorMod : MethodName := ⟨"java/lang/Math", "floorMod", "(JJ)J"⟩
/-- the one call of a nest mate's own method -/
abbrev cx_nl : Cond := .methodLinkNest "CatchShares$Owners" (30) mn_C_isOwner "CatchShares"
