section
-- ===== PART A: goes FIRST, ahead of the names: the tables' words, and 'selects' of the private methods out of them =====
/-- a private method of a class that the tables say can be made, by its rows of tables_1 -/
def lw_okq (q : MethodName × Nat) : Prop := (q.1.cls ≠ "java/lang/invoke/MethodHandle" ∧ q.1.cls ≠ "java/lang/invoke/VarHandle") ∧ Cond.instantiable q.1.cls q.2 ∈ tables_1 ∧ Cond.privateMethod q.1 ∈ tables_1 ∧ Cond.instanceMethod q.1 ∈ tables_1
theorem lw_p0 : lw_okq (⟨"CatchShares", "findStock", "(I)LCatchShares$Stock;"⟩, 9) := ⟨⟨by decide +kernel, by decide +kernel⟩, List.mem_of_getElem? (i := 9) (by decide +kernel), List.mem_of_getElem? (i := 156) (by decide +kernel), List.mem_of_getElem? (i := 157) (by decide +kernel)⟩
theorem lw_p1 : lw_okq (⟨"CatchShares", "isHolder", "(I)Z"⟩, 9) := ⟨⟨by decide +kernel, by decide +kernel⟩, List.mem_of_getElem? (i := 9) (by decide +kernel), List.mem_of_getElem? (i := 160) (by decide +kernel), List.mem_of_getElem? (i := 161) (by decide +kernel)⟩
theorem lw_p2 : lw_okq (⟨"CatchShares$Stock", "rankByRest", "(IJJ)I"⟩, 11) := ⟨⟨by decide +kernel, by decide +kernel⟩, List.mem_of_getElem? (i := 97) (by decide +kernel), List.mem_of_getElem? (i := 188) (by decide +kernel), List.mem_of_getElem? (i := 189) (by decide +kernel)⟩
theorem lw_p3 : lw_okq (⟨"CatchShares$Stock", "restOf", "(IJJ)J"⟩, 11) := ⟨⟨by decide +kernel, by decide +kernel⟩, List.mem_of_getElem? (i := 97) (by decide +kernel), List.mem_of_getElem? (i := 192) (by decide +kernel), List.mem_of_getElem? (i := 193) (by decide +kernel)⟩
theorem lw_p4 : lw_okq (⟨"CatchShares", "carryOver", "(LCatchShares$Stock;LCatchShares$Stock;)V"⟩, 9) := ⟨⟨by decide +kernel, by decide +kernel⟩, List.mem_of_getElem? (i := 9) (by decide +kernel), List.mem_of_getElem? (i := 196) (by decide +kernel), List.mem_of_getElem? (i := 197) (by decide +kernel)⟩
theorem lw_p5 : lw_okq (⟨"CatchShares", "carriedOf", "(LCatchShares$Stock;I)J"⟩, 9) := ⟨⟨by decide +kernel, by decide +kernel⟩, List.mem_of_getElem? (i := 9) (by decide +kernel), List.mem_of_getElem? (i := 200) (by decide +kernel), List.mem_of_getElem? (i := 201) (by decide +kernel)⟩
theorem lw_p6 : lw_okq (⟨"CatchShares", "overOf", "(LCatchShares$Stock;I)J"⟩, 9) := ⟨⟨by decide +kernel, by decide +kernel⟩, List.mem_of_getElem? (i := 9) (by decide +kernel), List.mem_of_getElem? (i := 204) (by decide +kernel), List.mem_of_getElem? (i := 205) (by decide +kernel)⟩
theorem lw_p7 : lw_okq (⟨"CatchShares", "leftInAll", "(LCatchShares$Stock;I)J"⟩, 9) := ⟨⟨by decide +kernel, by decide +kernel⟩, List.mem_of_getElem? (i := 9) (by decide +kernel), List.mem_of_getElem? (i := 208) (by decide +kernel), List.mem_of_getElem? (i := 209) (by decide +kernel)⟩
theorem lw_p8 : lw_okq (⟨"CatchShares", "leftOn", "(LCatchShares$Stock;II)J"⟩, 9) := ⟨⟨by decide +kernel, by decide +kernel⟩, List.mem_of_getElem? (i := 9) (by decide +kernel), List.mem_of_getElem? (i := 213) (by decide +kernel), List.mem_of_getElem? (i := 214) (by decide +kernel)⟩
theorem lw_p9 : lw_okq (⟨"CatchShares", "holdOf", "(II)J"⟩, 9) := ⟨⟨by decide +kernel, by decide +kernel⟩, List.mem_of_getElem? (i := 9) (by decide +kernel), List.mem_of_getElem? (i := 307) (by decide +kernel), List.mem_of_getElem? (i := 308) (by decide +kernel)⟩
theorem lw_p10 : lw_okq (⟨"CatchShares$Owners", "lengthenWays", "()V"⟩, 4) := ⟨⟨by decide +kernel, by decide +kernel⟩, List.mem_of_getElem? (i := 43) (by decide +kernel), List.mem_of_getElem? (i := 316) (by decide +kernel), List.mem_of_getElem? (i := 317) (by decide +kernel)⟩
theorem lw_p11 : lw_okq (⟨"CatchShares", "isAboveCap", "(LCatchShares$Stock;)Z"⟩, 9) := ⟨⟨by decide +kernel, by decide +kernel⟩, List.mem_of_getElem? (i := 9) (by decide +kernel), List.mem_of_getElem? (i := 345) (by decide +kernel), List.mem_of_getElem? (i := 346) (by decide +kernel)⟩
theorem lw_p12 : lw_okq (⟨"CatchShares", "isScarcer", "(LCatchShares$Stock;LCatchShares$Stock;I)Z"⟩, 9) := ⟨⟨by decide +kernel, by decide +kernel⟩, List.mem_of_getElem? (i := 9) (by decide +kernel), List.mem_of_getElem? (i := 355) (by decide +kernel), List.mem_of_getElem? (i := 356) (by decide +kernel)⟩
theorem lw_p13 : lw_okq (⟨"CatchSharesModel", "isStock", "(I)Z"⟩, 25) := ⟨⟨by decide +kernel, by decide +kernel⟩, List.mem_of_getElem? (i := 389) (by decide +kernel), List.mem_of_getElem? (i := 492) (by decide +kernel), List.mem_of_getElem? (i := 493) (by decide +kernel)⟩
theorem lw_p14 : lw_okq (⟨"CatchSharesModel", "isHolder", "(I)Z"⟩, 25) := ⟨⟨by decide +kernel, by decide +kernel⟩, List.mem_of_getElem? (i := 389) (by decide +kernel), List.mem_of_getElem? (i := 496) (by decide +kernel), List.mem_of_getElem? (i := 497) (by decide +kernel)⟩
theorem lw_p15 : lw_okq (⟨"CatchSharesModel", "allWeights", "(I)J"⟩, 25) := ⟨⟨by decide +kernel, by decide +kernel⟩, List.mem_of_getElem? (i := 389) (by decide +kernel), List.mem_of_getElem? (i := 513) (by decide +kernel), List.mem_of_getElem? (i := 514) (by decide +kernel)⟩
def lw_privs_1 : List (MethodName × Nat) := [(⟨"CatchShares", "findStock", "(I)LCatchShares$Stock;"⟩, 9), (⟨"CatchShares", "isHolder", "(I)Z"⟩, 9), (⟨"CatchShares$Stock", "rankByRest", "(IJJ)I"⟩, 11), (⟨"CatchShares$Stock", "restOf", "(IJJ)J"⟩, 11), (⟨"CatchShares", "carryOver", "(LCatchShares$Stock;LCatchShares$Stock;)V"⟩, 9), (⟨"CatchShares", "carriedOf", "(LCatchShares$Stock;I)J"⟩, 9), (⟨"CatchShares", "overOf", "(LCatchShares$Stock;I)J"⟩, 9), (⟨"CatchShares", "leftInAll", "(LCatchShares$Stock;I)J"⟩, 9), (⟨"CatchShares", "leftOn", "(LCatchShares$Stock;II)J"⟩, 9), (⟨"CatchShares", "holdOf", "(II)J"⟩, 9), (⟨"CatchShares$Owners", "lengthenWays", "()V"⟩, 4), (⟨"CatchShares", "isAboveCap", "(LCatchShares$Stock;)Z"⟩, 9), (⟨"CatchShares", "isScarcer", "(LCatchShares$Stock;LCatchShares$Stock;I)Z"⟩, 9), (⟨"CatchSharesModel", "isStock", "(I)Z"⟩, 25), (⟨"CatchSharesModel", "isHolder", "(I)Z"⟩, 25), (⟨"CatchSharesModel", "allWeights", "(I)J"⟩, 25)]
theorem lw_r1 : ∀ q ∈ lw_privs_1, lw_okq q := List.forall_mem_cons.mpr ⟨lw_p0, List.forall_mem_cons.mpr ⟨lw_p1, List.forall_mem_cons.mpr ⟨lw_p2, List.forall_mem_cons.mpr ⟨lw_p3, List.forall_mem_cons.mpr ⟨lw_p4, List.forall_mem_cons.mpr ⟨lw_p5, List.forall_mem_cons.mpr ⟨lw_p6, List.forall_mem_cons.mpr ⟨lw_p7, List.forall_mem_cons.mpr ⟨lw_p8, List.forall_mem_cons.mpr ⟨lw_p9, List.forall_mem_cons.mpr ⟨lw_p10, List.forall_mem_cons.mpr ⟨lw_p11, List.forall_mem_cons.mpr ⟨lw_p12, List.forall_mem_cons.mpr ⟨lw_p13, List.forall_mem_cons.mpr ⟨lw_p14, List.forall_mem_cons.mpr ⟨lw_p15, fun _ h => absurd h List.not_mem_nil⟩⟩⟩⟩⟩⟩⟩⟩⟩⟩⟩⟩⟩⟩⟩⟩
theorem lw_p16 : lw_okq (⟨"CatchSharesModel", "carriedOf", "(II)J"⟩, 25) := ⟨⟨by decide +kernel, by decide +kernel⟩, List.mem_of_getElem? (i := 389) (by decide +kernel), List.mem_of_getElem? (i := 518) (by decide +kernel), List.mem_of_getElem? (i := 519) (by decide +kernel)⟩
theorem lw_p17 : lw_okq (⟨"CatchSharesModel", "overOf", "(II)J"⟩, 25) := ⟨⟨by decide +kernel, by decide +kernel⟩, List.mem_of_getElem? (i := 389) (by decide +kernel), List.mem_of_getElem? (i := 522) (by decide +kernel), List.mem_of_getElem? (i := 523) (by decide +kernel)⟩
theorem lw_p18 : lw_okq (⟨"CatchSharesModel", "leftOf", "(II)J"⟩, 25) := ⟨⟨by decide +kernel, by decide +kernel⟩, List.mem_of_getElem? (i := 389) (by decide +kernel), List.mem_of_getElem? (i := 526) (by decide +kernel), List.mem_of_getElem? (i := 527) (by decide +kernel)⟩
theorem lw_p19 : lw_okq (⟨"CatchSharesModel", "leftOn", "(III)J"⟩, 25) := ⟨⟨by decide +kernel, by decide +kernel⟩, List.mem_of_getElem? (i := 389) (by decide +kernel), List.mem_of_getElem? (i := 531) (by decide +kernel), List.mem_of_getElem? (i := 532) (by decide +kernel)⟩
theorem lw_p20 : lw_okq (⟨"CatchSharesModel", "allShares", "(I)J"⟩, 25) := ⟨⟨by decide +kernel, by decide +kernel⟩, List.mem_of_getElem? (i := 389) (by decide +kernel), List.mem_of_getElem? (i := 570) (by decide +kernel), List.mem_of_getElem? (i := 571) (by decide +kernel)⟩
theorem lw_p21 : lw_okq (⟨"CatchSharesModel", "reaches", "(II)Z"⟩, 25) := ⟨⟨by decide +kernel, by decide +kernel⟩, List.mem_of_getElem? (i := 389) (by decide +kernel), List.mem_of_getElem? (i := 589) (by decide +kernel), List.mem_of_getElem? (i := 590) (by decide +kernel)⟩
theorem lw_p22 : lw_okq (⟨"CatchSharesModel", "findHolds", "(I)V"⟩, 25) := ⟨⟨by decide +kernel, by decide +kernel⟩, List.mem_of_getElem? (i := 389) (by decide +kernel), List.mem_of_getElem? (i := 597) (by decide +kernel), List.mem_of_getElem? (i := 598) (by decide +kernel)⟩
theorem lw_p23 : lw_okq (⟨"CatchSharesModel", "isAbove", "(I)Z"⟩, 25) := ⟨⟨by decide +kernel, by decide +kernel⟩, List.mem_of_getElem? (i := 389) (by decide +kernel), List.mem_of_getElem? (i := 609) (by decide +kernel), List.mem_of_getElem? (i := 610) (by decide +kernel)⟩
theorem lw_p24 : lw_okq (⟨"CatchSharesModel", "allLandings", "(I)J"⟩, 25) := ⟨⟨by decide +kernel, by decide +kernel⟩, List.mem_of_getElem? (i := 389) (by decide +kernel), List.mem_of_getElem? (i := 636) (by decide +kernel), List.mem_of_getElem? (i := 637) (by decide +kernel)⟩
def lw_privs_2 : List (MethodName × Nat) := [(⟨"CatchSharesModel", "carriedOf", "(II)J"⟩, 25), (⟨"CatchSharesModel", "overOf", "(II)J"⟩, 25), (⟨"CatchSharesModel", "leftOf", "(II)J"⟩, 25), (⟨"CatchSharesModel", "leftOn", "(III)J"⟩, 25), (⟨"CatchSharesModel", "allShares", "(I)J"⟩, 25), (⟨"CatchSharesModel", "reaches", "(II)Z"⟩, 25), (⟨"CatchSharesModel", "findHolds", "(I)V"⟩, 25), (⟨"CatchSharesModel", "isAbove", "(I)Z"⟩, 25), (⟨"CatchSharesModel", "allLandings", "(I)J"⟩, 25)]
theorem lw_r2 : ∀ q ∈ lw_privs_2, lw_okq q := List.forall_mem_cons.mpr ⟨lw_p16, List.forall_mem_cons.mpr ⟨lw_p17, List.forall_mem_cons.mpr ⟨lw_p18, List.forall_mem_cons.mpr ⟨lw_p19, List.forall_mem_cons.mpr ⟨lw_p20, List.forall_mem_cons.mpr ⟨lw_p21, List.forall_mem_cons.mpr ⟨lw_p22, List.forall_mem_cons.mpr ⟨lw_p23, List.forall_mem_cons.mpr ⟨lw_p24, fun _ h => absurd h List.not_mem_nil⟩⟩⟩⟩⟩⟩⟩⟩⟩
def lw_privs : List (MethodName × Nat) := lw_privs_1 ++ (lw_privs_2)
def lw_tbl : List Cond := k2_sels lw_privs ++ tables_1
theorem lw_privs_ok : ∀ q ∈ lw_privs, lw_okq q := by
  show ∀ q ∈ lw_privs_1 ++ (lw_privs_2), lw_okq q
  exact List.forall_mem_append.mpr ⟨lw_r1, lw_r2⟩
def na_L : String := "CatchShares$Landings"
def fT_L : u_T := fun k => match k with
  | 0 => ("CatchShares$Landings", "stockNumbers", "[I", true)
  | 1 => ("CatchShares$Landings", "holderNumbers", "[I", true)
  | 2 => ("CatchShares$Landings", "caught", "[J", true)
  | 3 => ("CatchShares$Landings", "toldDays", "[I", true)
  | _ => ("CatchShares$Landings", "count", "I", false)
def ft_L : Nat → FieldType := fun k => match k with
  | 0 => .array .int
  | 1 => .array .int
  | 2 => .array .long
  | 3 => .array .int
  | _ => .int
theorem fn_L : ∀ a, a < 5 → ∀ b, b < 5 → a ≠ b → (fT_L a).2.1 ≠ (fT_L b).2.1 := by decide +kernel
theorem fo_L : ∀ k, k < 5 → parseFieldDescriptor (fT_L k).2.2.1 = some (ft_L k) := by decide +kernel
def na_O : String := "CatchShares$Owners"
def fT_O : u_T := fun k => match k with
  | 0 => ("CatchShares$Owners", "parts", "[I", true)
  | 1 => ("CatchShares$Owners", "ways", "[J", true)
  | 2 => ("CatchShares$Owners", "longerWays", "[J", true)
  | _ => ("CatchShares$Owners", "holds", "[J", true)
def ft_O : Nat → FieldType := fun k => match k with
  | 0 => .array .int
  | 1 => .array .long
  | 2 => .array .long
  | _ => .array .long
theorem fn_O : ∀ a, a < 4 → ∀ b, b < 4 → a ≠ b → (fT_O a).2.1 ≠ (fT_O b).2.1 := by decide +kernel
theorem fo_O : ∀ k, k < 4 → parseFieldDescriptor (fT_O k).2.2.1 = some (ft_O k) := by decide +kernel
def na_S : String := "CatchShares$Stock"
def fT_S : u_T := fun k => match k with
  | 0 => ("CatchShares$Stock", "number", "I", true)
  | 1 => ("CatchShares$Stock", "allowed", "J", true)
  | 2 => ("CatchShares$Stock", "weights", "[J", true)
  | 3 => ("CatchShares$Stock", "shares", "[J", true)
  | 4 => ("CatchShares$Stock", "setAside", "J", false)
  | 5 => ("CatchShares$Stock", "parted", "Z", false)
  | 6 => ("CatchShares$Stock", "followed", "I", false)
  | 7 => ("CatchShares$Stock", "capHundredths", "I", false)
  | 8 => ("CatchShares$Stock", "keptSeen", "J", false)
  | 9 => ("CatchShares$Stock", "thrownSeen", "J", false)
  | _ => ("CatchShares$Stock", "dueShares", "J", false)
def ft_S : Nat → FieldType := fun k => match k with
  | 0 => .int
  | 1 => .long
  | 2 => .array .long
  | 3 => .array .long
  | 4 => .long
  | 5 => .boolean
  | 6 => .int
  | 7 => .int
  | 8 => .long
  | 9 => .long
  | _ => .long
theorem fn_S : ∀ a, a < 11 → ∀ b, b < 11 → a ≠ b → (fT_S a).2.1 ≠ (fT_S b).2.1 := by decide +kernel
theorem fo_S : ∀ k, k < 11 → parseFieldDescriptor (fT_S k).2.2.1 = some (ft_S k) := by decide +kernel
def na_C : String := "CatchShares"
def fT_C : u_T := fun k => match k with
  | 0 => ("CatchShares", "stocks", "[LCatchShares$Stock;", true)
  | 1 => ("CatchShares", "stockCount", "I", false)
  | 2 => ("CatchShares", "ownerOf", "[I", true)
  | 3 => ("CatchShares", "poolOf", "[I", true)
  | 4 => ("CatchShares", "holderCount", "I", false)
  | 5 => ("CatchShares", "landings", "LCatchShares$Landings;", true)
  | 6 => ("CatchShares", "owners", "LCatchShares$Owners;", true)
  | 7 => ("CatchShares", "penaltyAbove", "I", false)
  | _ => ("CatchShares", "penaltyBelow", "I", false)
def ft_C : Nat → FieldType := fun k => match k with
  | 0 => .array (.object "CatchShares$Stock")
  | 1 => .int
  | 2 => .array .int
  | 3 => .array .int
  | 4 => .int
  | 5 => .object "CatchShares$Landings"
  | 6 => .object "CatchShares$Owners"
  | 7 => .int
  | _ => .int
theorem fn_C : ∀ a, a < 9 → ∀ b, b < 9 → a ≠ b → (fT_C a).2.1 ≠ (fT_C b).2.1 := by decide +kernel
theorem fo_C : ∀ k, k < 9 → parseFieldDescriptor (fT_C k).2.2.1 = some (ft_C k) := by decide +kernel
def na_M : String := "CatchSharesModel"
def fT_M : u_T := fun k => match k with
  | 0 => ("CatchSharesModel", "stocks", "I", false)
  | 1 => ("CatchSharesModel", "allowed", "[J", true)
  | 2 => ("CatchSharesModel", "aside", "[J", true)
  | 3 => ("CatchSharesModel", "follows", "[I", true)
  | 4 => ("CatchSharesModel", "isParted", "[Z", true)
  | 5 => ("CatchSharesModel", "caps", "[I", true)
  | 6 => ("CatchSharesModel", "extra", "[J", true)
  | 7 => ("CatchSharesModel", "kept", "[J", true)
  | 8 => ("CatchSharesModel", "thrownBack", "[J", true)
  | 9 => ("CatchSharesModel", "holders", "I", false)
  | 10 => ("CatchSharesModel", "owners", "[I", true)
  | 11 => ("CatchSharesModel", "pools", "[I", true)
  | 12 => ("CatchSharesModel", "weights", "[J", true)
  | 13 => ("CatchSharesModel", "shares", "[J", true)
  | 14 => ("CatchSharesModel", "rests", "[J", true)
  | 15 => ("CatchSharesModel", "landings", "I", false)
  | 16 => ("CatchSharesModel", "landedWhere", "[I", true)
  | 17 => ("CatchSharesModel", "landed", "[J", true)
  | 18 => ("CatchSharesModel", "toldOn", "[I", true)
  | 19 => ("CatchSharesModel", "penaltyAbove", "I", false)
  | 20 => ("CatchSharesModel", "penaltyBelow", "I", false)
  | 21 => ("CatchSharesModel", "own", "[I", true)
  | 22 => ("CatchSharesModel", "holds", "[J", true)
  | 23 => ("CatchSharesModel", "next", "[J", true)
  | _ => ("CatchSharesModel", "all", "[J", true)
def ft_M : Nat → FieldType := fun k => match k with
  | 0 => .int
  | 1 => .array .long
  | 2 => .array .long
  | 3 => .array .int
  | 4 => .array .boolean
  | 5 => .array .int
  | 6 => .array .long
  | 7 => .array .long
  | 8 => .array .long
  | 9 => .int
  | 10 => .array .int
  | 11 => .array .int
  | 12 => .array .long
  | 13 => .array .long
  | 14 => .array .long
  | 15 => .int
  | 16 => .array .int
  | 17 => .array .long
  | 18 => .array .int
  | 19 => .int
  | 20 => .int
  | 21 => .array .int
  | 22 => .array .long
  | 23 => .array .long
  | _ => .array .long
theorem fn_M : ∀ a, a < 25 → ∀ b, b < 25 → a ≠ b → (fT_M a).2.1 ≠ (fT_M b).2.1 := by decide +kernel
theorem fo_M : ∀ k, k < 25 → parseFieldDescriptor (fT_M k).2.2.1 = some (ft_M k) := by decide +kernel
abbrev vw_cl : List vw_C := [(na_L, fT_L, 5), (na_O, fT_O, 4), (na_S, fT_S, 11), (na_C, fT_C, 9), (na_M, fT_M, 25)]
abbrev bc_L_init : ByteArray := prog_2_method_1_code
def mn_L_init : MethodName := ⟨"CatchShares$Landings", "<init>", "()V"⟩
abbrev bc_L_add : ByteArray := prog_2_method_2_code
def mn_L_add : MethodName := ⟨"CatchShares$Landings", "add", "(IIJI)Z"⟩
abbrev bc_L_toldUpTo : ByteArray := prog_2_method_3_code
def mn_L_toldUpTo : MethodName := ⟨"CatchShares$Landings", "toldUpTo", "(III)J"⟩
abbrev bc_L_ofStock : ByteArray := prog_2_method_4_code
def mn_L_ofStock : MethodName := ⟨"CatchShares$Landings", "ofStock", "(I)J"⟩
abbrev bc_O_init : ByteArray := prog_3_method_1_code
def mn_O_init : MethodName := ⟨"CatchShares$Owners", "<init>", "()V"⟩
abbrev bc_O_setPart : ByteArray := prog_3_method_2_code
def mn_O_setPart : MethodName := ⟨"CatchShares$Owners", "setPart", "(III)Z"⟩
abbrev bc_O_findHolds : ByteArray := prog_3_method_3_code
def mn_O_findHolds : MethodName := ⟨"CatchShares$Owners", "findHolds", "(I)V"⟩
abbrev bc_O_found : ByteArray := prog_3_method_4_code
def mn_O_found : MethodName := ⟨"CatchShares$Owners", "found", "(I)J"⟩
abbrev bc_O_lengthenWays : ByteArray := prog_3_method_5_code
def mn_O_lengthenWays : MethodName := ⟨"CatchShares$Owners", "lengthenWays", "()V"⟩
abbrev bc_S_init : ByteArray := prog_4_method_1_code
def mn_S_init : MethodName := ⟨"CatchShares$Stock", "<init>", "(IJ)V"⟩
abbrev bc_S_allWeights : ByteArray := prog_4_method_2_code
def mn_S_allWeights : MethodName := ⟨"CatchShares$Stock", "allWeights", "()J"⟩
abbrev bc_S_allShares : ByteArray := prog_4_method_3_code
def mn_S_allShares : MethodName := ⟨"CatchShares$Stock", "allShares", "()J"⟩
abbrev bc_S_sumOf : ByteArray := prog_4_method_4_code
def mn_S_sumOf : MethodName := ⟨"CatchShares$Stock", "sumOf", "([J)J"⟩
abbrev bc_S_countShares : ByteArray := prog_4_method_5_code
def mn_S_countShares : MethodName := ⟨"CatchShares$Stock", "countShares", "()I"⟩
abbrev bc_S_shareOut : ByteArray := prog_4_method_6_code
def mn_S_shareOut : MethodName := ⟨"CatchShares$Stock", "shareOut", "()Z"⟩
abbrev bc_S_rankByRest : ByteArray := prog_4_method_7_code
def mn_S_rankByRest : MethodName := ⟨"CatchShares$Stock", "rankByRest", "(IJJ)I"⟩
abbrev bc_S_restOf : ByteArray := prog_4_method_8_code
def mn_S_restOf : MethodName := ⟨"CatchShares$Stock", "restOf", "(IJJ)J"⟩
abbrev bc_S_carryIn : ByteArray := prog_4_method_9_code
def mn_S_carryIn : MethodName := ⟨"CatchShares$Stock", "carryIn", "(IJ)V"⟩
abbrev bc_S_swapShare : ByteArray := prog_4_method_10_code
def mn_S_swapShare : MethodName := ⟨"CatchShares$Stock", "swapShare", "(IJ)V"⟩
abbrev bc_C_init : ByteArray := prog_1_method_1_code
def mn_C_init : MethodName := ⟨"CatchShares", "<init>", "()V"⟩
abbrev bc_C_stock : ByteArray := prog_1_method_2_code
def mn_C_stock : MethodName := ⟨"CatchShares", "stock", "(J)I"⟩
abbrev bc_C_holder : ByteArray := prog_1_method_3_code
def mn_C_holder : MethodName := ⟨"CatchShares", "holder", "(I)I"⟩
abbrev bc_C_weight : ByteArray := prog_1_method_4_code
def mn_C_weight : MethodName := ⟨"CatchShares", "weight", "(IIJ)Z"⟩
abbrev bc_C_aside : ByteArray := prog_1_method_5_code
def mn_C_aside : MethodName := ⟨"CatchShares", "aside", "(IJ)Z"⟩
abbrev bc_C_follows : ByteArray := prog_1_method_6_code
def mn_C_follows : MethodName := ⟨"CatchShares", "follows", "(II)Z"⟩
abbrev bc_C_part : ByteArray := prog_1_method_7_code
def mn_C_part : MethodName := ⟨"CatchShares", "part", "(I)I"⟩
abbrev bc_C_given : ByteArray := prog_1_method_8_code
def mn_C_given : MethodName := ⟨"CatchShares", "given", "(II)J"⟩
abbrev bc_C_land : ByteArray := prog_1_method_9_code
def mn_C_land : MethodName := ⟨"CatchShares", "land", "(IIJII)Z"⟩
abbrev bc_C_left : ByteArray := prog_1_method_10_code
def mn_C_left : MethodName := ⟨"CatchShares", "left", "(III)J"⟩
abbrev bc_C_transfer : ByteArray := prog_1_method_11_code
def mn_C_transfer : MethodName := ⟨"CatchShares", "transfer", "(IIIJ)I"⟩
abbrev bc_C_swap : ByteArray := prog_1_method_12_code
def mn_C_swap : MethodName := ⟨"CatchShares", "swap", "(IIIIIJ)I"⟩
abbrev bc_C_over : ByteArray := prog_1_method_13_code
def mn_C_over : MethodName := ⟨"CatchShares", "over", "(II)J"⟩
abbrev bc_C_carried : ByteArray := prog_1_method_14_code
def mn_C_carried : MethodName := ⟨"CatchShares", "carried", "(II)J"⟩
abbrev bc_C_penalty : ByteArray := prog_1_method_15_code
def mn_C_penalty : MethodName := ⟨"CatchShares", "penalty", "(II)Z"⟩
abbrev bc_C_into : ByteArray := prog_1_method_16_code
def mn_C_into : MethodName := ⟨"CatchShares", "into", "(II)Z"⟩
abbrev bc_C_pooled : ByteArray := prog_1_method_17_code
def mn_C_pooled : MethodName := ⟨"CatchShares", "pooled", "(II)J"⟩
abbrev bc_C_owns : ByteArray := prog_1_method_18_code
def mn_C_owns : MethodName := ⟨"CatchShares", "owns", "(III)Z"⟩
abbrev bc_C_hold : ByteArray := prog_1_method_19_code
def mn_C_hold : MethodName := ⟨"CatchShares", "hold", "(II)J"⟩
abbrev bc_C_cap : ByteArray := prog_1_method_20_code
def mn_C_cap : MethodName := ⟨"CatchShares", "cap", "(II)Z"⟩
abbrev bc_C_capped : ByteArray := prog_1_method_21_code
def mn_C_capped : MethodName := ⟨"CatchShares", "capped", "(I)Z"⟩
abbrev bc_C_choke : ByteArray := prog_1_method_22_code
def mn_C_choke : MethodName := ⟨"CatchShares", "choke", "(I)I"⟩
abbrev bc_C_closes : ByteArray := prog_1_method_23_code
def mn_C_closes : MethodName := ⟨"CatchShares", "closes", "(IJ)J"⟩
abbrev bc_C_seen : ByteArray := prog_1_method_24_code
def mn_C_seen : MethodName := ⟨"CatchShares", "seen", "(IJJ)Z"⟩
abbrev bc_C_discard : ByteArray := prog_1_method_25_code
def mn_C_discard : MethodName := ⟨"CatchShares", "discard", "(I)J"⟩
abbrev bc_C_told : ByteArray := prog_1_method_26_code
def mn_C_told : MethodName := ⟨"CatchShares", "told", "(II)J"⟩
abbrev bc_C_sums : ByteArray := prog_1_method_27_code
def mn_C_sums : MethodName := ⟨"CatchShares", "sums", "(I)Z"⟩
abbrev bc_C_isWithin : ByteArray := prog_1_method_28_code
def mn_C_isWithin : MethodName := ⟨"CatchShares", "isWithin", "(JJJ)Z"⟩
abbrev bc_C_isFraction : ByteArray := prog_1_method_29_code
def mn_C_isFraction : MethodName := ⟨"CatchShares", "isFraction", "(II)Z"⟩
abbrev bc_C_dividedUp : ByteArray := prog_1_method_30_code
def mn_C_dividedUp : MethodName := ⟨"CatchShares", "dividedUp", "(JJ)J"⟩
abbrev bc_C_isOwner : ByteArray := prog_1_method_31_code
def mn_C_isOwner : MethodName := ⟨"CatchShares", "isOwner", "(I)Z"⟩
abbrev bc_C_isPool : ByteArray := prog_1_method_32_code
def mn_C_isPool : MethodName := ⟨"CatchShares", "isPool", "(I)Z"⟩
abbrev bc_C_isHolder : ByteArray := prog_1_method_33_code
def mn_C_isHolder : MethodName := ⟨"CatchShares", "isHolder", "(I)Z"⟩
abbrev bc_C_findStock : ByteArray := prog_1_method_34_code
def mn_C_findStock : MethodName := ⟨"CatchShares", "findStock", "(I)LCatchShares$Stock;"⟩
abbrev bc_C_leftOn : ByteArray := prog_1_method_35_code
def mn_C_leftOn : MethodName := ⟨"CatchShares", "leftOn", "(LCatchShares$Stock;II)J"⟩
abbrev bc_C_leftInAll : ByteArray := prog_1_method_36_code
def mn_C_leftInAll : MethodName := ⟨"CatchShares", "leftInAll", "(LCatchShares$Stock;I)J"⟩
abbrev bc_C_overOf : ByteArray := prog_1_method_37_code
def mn_C_overOf : MethodName := ⟨"CatchShares", "overOf", "(LCatchShares$Stock;I)J"⟩
abbrev bc_C_carriedOf : ByteArray := prog_1_method_38_code
def mn_C_carriedOf : MethodName := ⟨"CatchShares", "carriedOf", "(LCatchShares$Stock;I)J"⟩
abbrev bc_C_carryOver : ByteArray := prog_1_method_39_code
def mn_C_carryOver : MethodName := ⟨"CatchShares", "carryOver", "(LCatchShares$Stock;LCatchShares$Stock;)V"⟩
abbrev bc_C_holdOf : ByteArray := prog_1_method_40_code
def mn_C_holdOf : MethodName := ⟨"CatchShares", "holdOf", "(II)J"⟩
abbrev bc_C_isAboveCap : ByteArray := prog_1_method_41_code
def mn_C_isAboveCap : MethodName := ⟨"CatchShares", "isAboveCap", "(LCatchShares$Stock;)Z"⟩
abbrev bc_C_isScarcer : ByteArray := prog_1_method_42_code
def mn_C_isScarcer : MethodName := ⟨"CatchShares", "isScarcer", "(LCatchShares$Stock;LCatchShares$Stock;I)Z"⟩
abbrev bc_M_init : ByteArray := prog_6_method_1_code
def mn_M_init : MethodName := ⟨"CatchSharesModel", "<init>", "()V"⟩
abbrev bc_M_in : ByteArray := prog_6_method_2_code
def mn_M_in : MethodName := ⟨"CatchSharesModel", "in", "(JJJ)Z"⟩
abbrev bc_M_isStock : ByteArray := prog_6_method_3_code
def mn_M_isStock : MethodName := ⟨"CatchSharesModel", "isStock", "(I)Z"⟩
abbrev bc_M_isHolder : ByteArray := prog_6_method_4_code
def mn_M_isHolder : MethodName := ⟨"CatchSharesModel", "isHolder", "(I)Z"⟩
abbrev bc_M_isOwner : ByteArray := prog_6_method_5_code
def mn_M_isOwner : MethodName := ⟨"CatchSharesModel", "isOwner", "(I)Z"⟩
abbrev bc_M_stock : ByteArray := prog_6_method_6_code
def mn_M_stock : MethodName := ⟨"CatchSharesModel", "stock", "(J)I"⟩
abbrev bc_M_holder : ByteArray := prog_6_method_7_code
def mn_M_holder : MethodName := ⟨"CatchSharesModel", "holder", "(I)I"⟩
abbrev bc_M_weight : ByteArray := prog_6_method_8_code
def mn_M_weight : MethodName := ⟨"CatchSharesModel", "weight", "(IIJ)Z"⟩
abbrev bc_M_aside : ByteArray := prog_6_method_9_code
def mn_M_aside : MethodName := ⟨"CatchSharesModel", "aside", "(IJ)Z"⟩
abbrev bc_M_follows : ByteArray := prog_6_method_10_code
def mn_M_follows : MethodName := ⟨"CatchSharesModel", "follows", "(II)Z"⟩
abbrev bc_M_allWeights : ByteArray := prog_6_method_11_code
def mn_M_allWeights : MethodName := ⟨"CatchSharesModel", "allWeights", "(I)J"⟩
abbrev bc_M_allShares : ByteArray := prog_6_method_12_code
def mn_M_allShares : MethodName := ⟨"CatchSharesModel", "allShares", "(I)J"⟩
abbrev bc_M_part : ByteArray := prog_6_method_13_code
def mn_M_part : MethodName := ⟨"CatchSharesModel", "part", "(I)I"⟩
abbrev bc_M_given : ByteArray := prog_6_method_14_code
def mn_M_given : MethodName := ⟨"CatchSharesModel", "given", "(II)J"⟩
abbrev bc_M_land : ByteArray := prog_6_method_15_code
def mn_M_land : MethodName := ⟨"CatchSharesModel", "land", "(IIJII)Z"⟩
abbrev bc_M_leftOn : ByteArray := prog_6_method_16_code
def mn_M_leftOn : MethodName := ⟨"CatchSharesModel", "leftOn", "(III)J"⟩
abbrev bc_M_leftOf : ByteArray := prog_6_method_17_code
def mn_M_leftOf : MethodName := ⟨"CatchSharesModel", "leftOf", "(II)J"⟩
abbrev bc_M_left : ByteArray := prog_6_method_18_code
def mn_M_left : MethodName := ⟨"CatchSharesModel", "left", "(III)J"⟩
abbrev bc_M_overOf : ByteArray := prog_6_method_19_code
def mn_M_overOf : MethodName := ⟨"CatchSharesModel", "overOf", "(II)J"⟩
abbrev bc_M_carriedOf : ByteArray := prog_6_method_20_code
def mn_M_carriedOf : MethodName := ⟨"CatchSharesModel", "carriedOf", "(II)J"⟩
abbrev bc_M_over : ByteArray := prog_6_method_21_code
def mn_M_over : MethodName := ⟨"CatchSharesModel", "over", "(II)J"⟩
abbrev bc_M_carried : ByteArray := prog_6_method_22_code
def mn_M_carried : MethodName := ⟨"CatchSharesModel", "carried", "(II)J"⟩
abbrev bc_M_penalty : ByteArray := prog_6_method_23_code
def mn_M_penalty : MethodName := ⟨"CatchSharesModel", "penalty", "(II)Z"⟩
abbrev bc_M_transfer : ByteArray := prog_6_method_24_code
def mn_M_transfer : MethodName := ⟨"CatchSharesModel", "transfer", "(IIIJ)I"⟩
abbrev bc_M_swap : ByteArray := prog_6_method_25_code
def mn_M_swap : MethodName := ⟨"CatchSharesModel", "swap", "(IIIIIJ)I"⟩
abbrev bc_M_into : ByteArray := prog_6_method_26_code
def mn_M_into : MethodName := ⟨"CatchSharesModel", "into", "(II)Z"⟩
abbrev bc_M_pooled : ByteArray := prog_6_method_27_code
def mn_M_pooled : MethodName := ⟨"CatchSharesModel", "pooled", "(II)J"⟩
abbrev bc_M_reaches : ByteArray := prog_6_method_28_code
def mn_M_reaches : MethodName := ⟨"CatchSharesModel", "reaches", "(II)Z"⟩
abbrev bc_M_owns : ByteArray := prog_6_method_29_code
def mn_M_owns : MethodName := ⟨"CatchSharesModel", "owns", "(III)Z"⟩
abbrev bc_M_findHolds : ByteArray := prog_6_method_30_code
def mn_M_findHolds : MethodName := ⟨"CatchSharesModel", "findHolds", "(I)V"⟩
abbrev bc_M_hold : ByteArray := prog_6_method_31_code
def mn_M_hold : MethodName := ⟨"CatchSharesModel", "hold", "(II)J"⟩
abbrev bc_M_cap : ByteArray := prog_6_method_32_code
def mn_M_cap : MethodName := ⟨"CatchSharesModel", "cap", "(II)Z"⟩
abbrev bc_M_isAbove : ByteArray := prog_6_method_33_code
def mn_M_isAbove : MethodName := ⟨"CatchSharesModel", "isAbove", "(I)Z"⟩
abbrev bc_M_capped : ByteArray := prog_6_method_34_code
def mn_M_capped : MethodName := ⟨"CatchSharesModel", "capped", "(I)Z"⟩
abbrev bc_M_isLess : ByteArray := prog_6_method_35_code
def mn_M_isLess : MethodName := ⟨"CatchSharesModel", "isLess", "(JJJJ)Z"⟩
abbrev bc_M_down : ByteArray := prog_6_method_36_code
def mn_M_down : MethodName := ⟨"CatchSharesModel", "down", "(JJ)J"⟩
abbrev bc_M_choke : ByteArray := prog_6_method_37_code
def mn_M_choke : MethodName := ⟨"CatchSharesModel", "choke", "(I)I"⟩
abbrev bc_M_closes : ByteArray := prog_6_method_38_code
def mn_M_closes : MethodName := ⟨"CatchSharesModel", "closes", "(IJ)J"⟩
abbrev bc_M_seen : ByteArray := prog_6_method_39_code
def mn_M_seen : MethodName := ⟨"CatchSharesModel", "seen", "(IJJ)Z"⟩
abbrev bc_M_allLandings : ByteArray := prog_6_method_40_code
def mn_M_allLandings : MethodName := ⟨"CatchSharesModel", "allLandings", "(I)J"⟩
abbrev bc_M_discard : ByteArray := prog_6_method_41_code
def mn_M_discard : MethodName := ⟨"CatchSharesModel", "discard", "(I)J"⟩
abbrev bc_M_told : ByteArray := prog_6_method_42_code
def mn_M_told : MethodName := ⟨"CatchSharesModel", "told", "(II)J"⟩
abbrev bc_M_sums : ByteArray := prog_6_method_43_code
def mn_M_sums : MethodName := ⟨"CatchSharesModel", "sums", "(I)Z"⟩
abbrev bc_W_law : ByteArray := code
abbrev bc_J_floorDiv : ByteArray := prog_7_method_49_code
def mn_J_floorDiv : MethodName := ⟨"java/lang/Math", "floorDiv", "(JJ)J"⟩
abbrev bc_J_floorMod : ByteArray := prog_7_method_52_code
def mn_J_floorMod : MethodName := ⟨"java/lang/Math", "floorMod", "(JJ)J"⟩
/-- the one call of a nest mate's own method -/
abbrev cx_nl : Cond := .methodLinkNest "CatchShares$Owners" (30) mn_C_isOwner "CatchShares"
end
section
theorem dc_L_init_0 : decode bc_L_init 0 = .ok (.aload_n 0, 1) := by decide +kernel
theorem dc_L_init_1 : decode bc_L_init 1 = .ok (.invokespecial 3, 3) := by decide +kernel
theorem dc_L_init_4 : decode bc_L_init 4 = .ok (.aload_n 0, 1) := by decide +kernel
theorem dc_L_init_5 : decode bc_L_init 5 = .ok (.sipush 200, 3) := by decide +kernel
theorem dc_L_init_8 : decode bc_L_init 8 = .ok (.newarray .int, 2) := by decide +kernel
theorem dc_L_init_10 : decode bc_L_init 10 = .ok (.putfield 9, 3) := by decide +kernel
theorem dc_L_init_13 : decode bc_L_init 13 = .ok (.aload_n 0, 1) := by decide +kernel
theorem dc_L_init_14 : decode bc_L_init 14 = .ok (.sipush 200, 3) := by decide +kernel
theorem dc_L_init_17 : decode bc_L_init 17 = .ok (.newarray .int, 2) := by decide +kernel
theorem dc_L_init_19 : decode bc_L_init 19 = .ok (.putfield 15, 3) := by decide +kernel
theorem dc_L_init_22 : decode bc_L_init 22 = .ok (.aload_n 0, 1) := by decide +kernel
theorem dc_L_init_23 : decode bc_L_init 23 = .ok (.sipush 200, 3) := by decide +kernel
theorem dc_L_init_26 : decode bc_L_init 26 = .ok (.newarray .long, 2) := by decide +kernel
theorem dc_L_init_28 : decode bc_L_init 28 = .ok (.putfield 18, 3) := by decide +kernel
theorem dc_L_init_31 : decode bc_L_init 31 = .ok (.aload_n 0, 1) := by decide +kernel
theorem dc_L_init_32 : decode bc_L_init 32 = .ok (.sipush 200, 3) := by decide +kernel
theorem dc_L_init_35 : decode bc_L_init 35 = .ok (.newarray .int, 2) := by decide +kernel
theorem dc_L_init_37 : decode bc_L_init 37 = .ok (.putfield 22, 3) := by decide +kernel
theorem dc_L_init_40 : decode bc_L_init 40 = .ok (.return_, 1) := by decide +kernel
theorem dc_L_add_0 : decode bc_L_add 0 = .ok (.aload_n 0, 1) := by decide +kernel
theorem dc_L_add_1 : decode bc_L_add 1 = .ok (.getfield 25, 3) := by decide +kernel
theorem dc_L_add_4 : decode bc_L_add 4 = .ok (.sipush 200, 3) := by decide +kernel
theorem dc_L_add_7 : decode bc_L_add 7 = .ok (.if_icmp .lt 5, 3) := by decide +kernel
theorem dc_L_add_10 : decode bc_L_add 10 = .ok (.iconst 0, 1) := by decide +kernel
theorem dc_L_add_11 : decode bc_L_add 11 = .ok (.ireturn, 1) := by decide +kernel
theorem dc_L_add_12 : decode bc_L_add 12 = .ok (.aload_n 0, 1) := by decide +kernel
theorem dc_L_add_13 : decode bc_L_add 13 = .ok (.getfield 9, 3) := by decide +kernel
theorem dc_L_add_16 : decode bc_L_add 16 = .ok (.aload_n 0, 1) := by decide +kernel
theorem dc_L_add_17 : decode bc_L_add 17 = .ok (.getfield 25, 3) := by decide +kernel
theorem dc_L_add_20 : decode bc_L_add 20 = .ok (.iload_n 1, 1) := by decide +kernel
theorem dc_L_add_21 : decode bc_L_add 21 = .ok (.iastore, 1) := by decide +kernel
theorem dc_L_add_22 : decode bc_L_add 22 = .ok (.aload_n 0, 1) := by decide +kernel
theorem dc_L_add_23 : decode bc_L_add 23 = .ok (.getfield 15, 3) := by decide +kernel
theorem dc_L_add_26 : decode bc_L_add 26 = .ok (.aload_n 0, 1) := by decide +kernel
theorem dc_L_add_27 : decode bc_L_add 27 = .ok (.getfield 25, 3) := by decide +kernel
theorem dc_L_add_30 : decode bc_L_add 30 = .ok (.iload_n 2, 1) := by decide +kernel
theorem dc_L_add_31 : decode bc_L_add 31 = .ok (.iastore, 1) := by decide +kernel
theorem dc_L_add_32 : decode bc_L_add 32 = .ok (.aload_n 0, 1) := by decide +kernel
theorem dc_L_add_33 : decode bc_L_add 33 = .ok (.getfield 18, 3) := by decide +kernel
theorem dc_L_add_36 : decode bc_L_add 36 = .ok (.aload_n 0, 1) := by decide +kernel
theorem dc_L_add_37 : decode bc_L_add 37 = .ok (.getfield 25, 3) := by decide +kernel
theorem dc_L_add_40 : decode bc_L_add 40 = .ok (.lload_n 3, 1) := by decide +kernel
theorem dc_L_add_41 : decode bc_L_add 41 = .ok (.lastore, 1) := by decide +kernel
theorem dc_L_add_42 : decode bc_L_add 42 = .ok (.aload_n 0, 1) := by decide +kernel
theorem dc_L_add_43 : decode bc_L_add 43 = .ok (.getfield 22, 3) := by decide +kernel
theorem dc_L_add_46 : decode bc_L_add 46 = .ok (.aload_n 0, 1) := by decide +kernel
theorem dc_L_add_47 : decode bc_L_add 47 = .ok (.getfield 25, 3) := by decide +kernel
theorem dc_L_add_50 : decode bc_L_add 50 = .ok (.iload 5, 2) := by decide +kernel
theorem dc_L_add_52 : decode bc_L_add 52 = .ok (.iastore, 1) := by decide +kernel
theorem dc_L_add_53 : decode bc_L_add 53 = .ok (.aload_n 0, 1) := by decide +kernel
theorem dc_L_add_54 : decode bc_L_add 54 = .ok (.dup, 1) := by decide +kernel
theorem dc_L_add_55 : decode bc_L_add 55 = .ok (.getfield 25, 3) := by decide +kernel
theorem dc_L_add_58 : decode bc_L_add 58 = .ok (.iconst 1, 1) := by decide +kernel
theorem dc_L_add_59 : decode bc_L_add 59 = .ok (.iadd, 1) := by decide +kernel
theorem dc_L_add_60 : decode bc_L_add 60 = .ok (.putfield 25, 3) := by decide +kernel
theorem dc_L_add_63 : decode bc_L_add 63 = .ok (.iconst 1, 1) := by decide +kernel
theorem dc_L_add_64 : decode bc_L_add 64 = .ok (.ireturn, 1) := by decide +kernel
theorem dc_L_toldUpTo_0 : decode bc_L_toldUpTo 0 = .ok (.lconst 0, 1) := by decide +kernel
theorem dc_L_toldUpTo_1 : decode bc_L_toldUpTo 1 = .ok (.lstore 4, 2) := by decide +kernel
theorem dc_L_toldUpTo_3 : decode bc_L_toldUpTo 3 = .ok (.iconst 0, 1) := by decide +kernel
theorem dc_L_toldUpTo_4 : decode bc_L_toldUpTo 4 = .ok (.istore 6, 2) := by decide +kernel
theorem dc_L_toldUpTo_6 : decode bc_L_toldUpTo 6 = .ok (.iload 6, 2) := by decide +kernel
theorem dc_L_toldUpTo_8 : decode bc_L_toldUpTo 8 = .ok (.aload_n 0, 1) := by decide +kernel
theorem dc_L_toldUpTo_9 : decode bc_L_toldUpTo 9 = .ok (.getfield 25, 3) := by decide +kernel
theorem dc_L_toldUpTo_12 : decode bc_L_toldUpTo 12 = .ok (.if_icmp .ge 54, 3) := by decide +kernel
theorem dc_L_toldUpTo_15 : decode bc_L_toldUpTo 15 = .ok (.aload_n 0, 1) := by decide +kernel
theorem dc_L_toldUpTo_16 : decode bc_L_toldUpTo 16 = .ok (.getfield 9, 3) := by decide +kernel
theorem dc_L_toldUpTo_19 : decode bc_L_toldUpTo 19 = .ok (.iload 6, 2) := by decide +kernel
theorem dc_L_toldUpTo_21 : decode bc_L_toldUpTo 21 = .ok (.iaload, 1) := by decide +kernel
theorem dc_L_toldUpTo_22 : decode bc_L_toldUpTo 22 = .ok (.iload_n 1, 1) := by decide +kernel
theorem dc_L_toldUpTo_23 : decode bc_L_toldUpTo 23 = .ok (.if_icmp .ne 37, 3) := by decide +kernel
theorem dc_L_toldUpTo_26 : decode bc_L_toldUpTo 26 = .ok (.aload_n 0, 1) := by decide +kernel
theorem dc_L_toldUpTo_27 : decode bc_L_toldUpTo 27 = .ok (.getfield 15, 3) := by decide +kernel
theorem dc_L_toldUpTo_30 : decode bc_L_toldUpTo 30 = .ok (.iload 6, 2) := by decide +kernel
theorem dc_L_toldUpTo_32 : decode bc_L_toldUpTo 32 = .ok (.iaload, 1) := by decide +kernel
theorem dc_L_toldUpTo_33 : decode bc_L_toldUpTo 33 = .ok (.iload_n 2, 1) := by decide +kernel
theorem dc_L_toldUpTo_34 : decode bc_L_toldUpTo 34 = .ok (.if_icmp .ne 26, 3) := by decide +kernel
theorem dc_L_toldUpTo_37 : decode bc_L_toldUpTo 37 = .ok (.aload_n 0, 1) := by decide +kernel
theorem dc_L_toldUpTo_38 : decode bc_L_toldUpTo 38 = .ok (.getfield 22, 3) := by decide +kernel
theorem dc_L_toldUpTo_41 : decode bc_L_toldUpTo 41 = .ok (.iload 6, 2) := by decide +kernel
theorem dc_L_toldUpTo_43 : decode bc_L_toldUpTo 43 = .ok (.iaload, 1) := by decide +kernel
theorem dc_L_toldUpTo_44 : decode bc_L_toldUpTo 44 = .ok (.iload_n 3, 1) := by decide +kernel
theorem dc_L_toldUpTo_45 : decode bc_L_toldUpTo 45 = .ok (.if_icmp .gt 15, 3) := by decide +kernel
theorem dc_L_toldUpTo_48 : decode bc_L_toldUpTo 48 = .ok (.lload 4, 2) := by decide +kernel
theorem dc_L_toldUpTo_50 : decode bc_L_toldUpTo 50 = .ok (.aload_n 0, 1) := by decide +kernel
theorem dc_L_toldUpTo_51 : decode bc_L_toldUpTo 51 = .ok (.getfield 18, 3) := by decide +kernel
theorem dc_L_toldUpTo_54 : decode bc_L_toldUpTo 54 = .ok (.iload 6, 2) := by decide +kernel
theorem dc_L_toldUpTo_56 : decode bc_L_toldUpTo 56 = .ok (.laload, 1) := by decide +kernel
theorem dc_L_toldUpTo_57 : decode bc_L_toldUpTo 57 = .ok (.ladd, 1) := by decide +kernel
theorem dc_L_toldUpTo_58 : decode bc_L_toldUpTo 58 = .ok (.lstore 4, 2) := by decide +kernel
theorem dc_L_toldUpTo_60 : decode bc_L_toldUpTo 60 = .ok (.iinc 6 1, 3) := by decide +kernel
theorem dc_L_toldUpTo_63 : decode bc_L_toldUpTo 63 = .ok (.goto (-57), 3) := by decide +kernel
theorem dc_L_toldUpTo_66 : decode bc_L_toldUpTo 66 = .ok (.lload 4, 2) := by decide +kernel
theorem dc_L_toldUpTo_68 : decode bc_L_toldUpTo 68 = .ok (.lreturn, 1) := by decide +kernel
theorem dc_L_ofStock_0 : decode bc_L_ofStock 0 = .ok (.lconst 0, 1) := by decide +kernel
theorem dc_L_ofStock_1 : decode bc_L_ofStock 1 = .ok (.lstore_n 2, 1) := by decide +kernel
theorem dc_L_ofStock_2 : decode bc_L_ofStock 2 = .ok (.iconst 0, 1) := by decide +kernel
theorem dc_L_ofStock_3 : decode bc_L_ofStock 3 = .ok (.istore 4, 2) := by decide +kernel
theorem dc_L_ofStock_5 : decode bc_L_ofStock 5 = .ok (.iload 4, 2) := by decide +kernel
theorem dc_L_ofStock_7 : decode bc_L_ofStock 7 = .ok (.aload_n 0, 1) := by decide +kernel
theorem dc_L_ofStock_8 : decode bc_L_ofStock 8 = .ok (.getfield 25, 3) := by decide +kernel
theorem dc_L_ofStock_11 : decode bc_L_ofStock 11 = .ok (.if_icmp .ge 30, 3) := by decide +kernel
theorem dc_L_ofStock_14 : decode bc_L_ofStock 14 = .ok (.aload_n 0, 1) := by decide +kernel
theorem dc_L_ofStock_15 : decode bc_L_ofStock 15 = .ok (.getfield 9, 3) := by decide +kernel
theorem dc_L_ofStock_18 : decode bc_L_ofStock 18 = .ok (.iload 4, 2) := by decide +kernel
theorem dc_L_ofStock_20 : decode bc_L_ofStock 20 = .ok (.iaload, 1) := by decide +kernel
theorem dc_L_ofStock_21 : decode bc_L_ofStock 21 = .ok (.iload_n 1, 1) := by decide +kernel
theorem dc_L_ofStock_22 : decode bc_L_ofStock 22 = .ok (.if_icmp .ne 13, 3) := by decide +kernel
theorem dc_L_ofStock_25 : decode bc_L_ofStock 25 = .ok (.lload_n 2, 1) := by decide +kernel
theorem dc_L_ofStock_26 : decode bc_L_ofStock 26 = .ok (.aload_n 0, 1) := by decide +kernel
theorem dc_L_ofStock_27 : decode bc_L_ofStock 27 = .ok (.getfield 18, 3) := by decide +kernel
theorem dc_L_ofStock_30 : decode bc_L_ofStock 30 = .ok (.iload 4, 2) := by decide +kernel
theorem dc_L_ofStock_32 : decode bc_L_ofStock 32 = .ok (.laload, 1) := by decide +kernel
theorem dc_L_ofStock_33 : decode bc_L_ofStock 33 = .ok (.ladd, 1) := by decide +kernel
theorem dc_L_ofStock_34 : decode bc_L_ofStock 34 = .ok (.lstore_n 2, 1) := by decide +kernel
theorem dc_L_ofStock_35 : decode bc_L_ofStock 35 = .ok (.iinc 4 1, 3) := by decide +kernel
theorem dc_L_ofStock_38 : decode bc_L_ofStock 38 = .ok (.goto (-33), 3) := by decide +kernel
theorem dc_L_ofStock_41 : decode bc_L_ofStock 41 = .ok (.lload_n 2, 1) := by decide +kernel
theorem dc_L_ofStock_42 : decode bc_L_ofStock 42 = .ok (.lreturn, 1) := by decide +kernel
theorem dc_O_init_0 : decode bc_O_init 0 = .ok (.aload_n 0, 1) := by decide +kernel
theorem dc_O_init_1 : decode bc_O_init 1 = .ok (.invokespecial 3, 3) := by decide +kernel
theorem dc_O_init_4 : decode bc_O_init 4 = .ok (.aload_n 0, 1) := by decide +kernel
theorem dc_O_init_5 : decode bc_O_init 5 = .ok (.bipush 100, 2) := by decide +kernel
theorem dc_O_init_7 : decode bc_O_init 7 = .ok (.newarray .int, 2) := by decide +kernel
theorem dc_O_init_9 : decode bc_O_init 9 = .ok (.putfield 9, 3) := by decide +kernel
theorem dc_O_init_12 : decode bc_O_init 12 = .ok (.aload_n 0, 1) := by decide +kernel
theorem dc_O_init_13 : decode bc_O_init 13 = .ok (.bipush 10, 2) := by decide +kernel
theorem dc_O_init_15 : decode bc_O_init 15 = .ok (.newarray .long, 2) := by decide +kernel
theorem dc_O_init_17 : decode bc_O_init 17 = .ok (.putfield 15, 3) := by decide +kernel
theorem dc_O_init_20 : decode bc_O_init 20 = .ok (.aload_n 0, 1) := by decide +kernel
theorem dc_O_init_21 : decode bc_O_init 21 = .ok (.bipush 10, 2) := by decide +kernel
theorem dc_O_init_23 : decode bc_O_init 23 = .ok (.newarray .long, 2) := by decide +kernel
theorem dc_O_init_25 : decode bc_O_init 25 = .ok (.putfield 19, 3) := by decide +kernel
theorem dc_O_init_28 : decode bc_O_init 28 = .ok (.aload_n 0, 1) := by decide +kernel
theorem dc_O_init_29 : decode bc_O_init 29 = .ok (.bipush 10, 2) := by decide +kernel
theorem dc_O_init_31 : decode bc_O_init 31 = .ok (.newarray .long, 2) := by decide +kernel
theorem dc_O_init_33 : decode bc_O_init 33 = .ok (.putfield 22, 3) := by decide +kernel
theorem dc_O_init_36 : decode bc_O_init 36 = .ok (.return_, 1) := by decide +kernel
theorem dc_O_setPart_0 : decode bc_O_setPart 0 = .ok (.iload_n 3, 1) := by decide +kernel
theorem dc_O_setPart_1 : decode bc_O_setPart 1 = .ok (.istore 4, 2) := by decide +kernel
theorem dc_O_setPart_3 : decode bc_O_setPart 3 = .ok (.iconst 0, 1) := by decide +kernel
theorem dc_O_setPart_4 : decode bc_O_setPart 4 = .ok (.istore 5, 2) := by decide +kernel
theorem dc_O_setPart_6 : decode bc_O_setPart 6 = .ok (.iload 5, 2) := by decide +kernel
theorem dc_O_setPart_8 : decode bc_O_setPart 8 = .ok (.bipush 10, 2) := by decide +kernel
theorem dc_O_setPart_10 : decode bc_O_setPart 10 = .ok (.if_icmp .ge 32, 3) := by decide +kernel
theorem dc_O_setPart_13 : decode bc_O_setPart 13 = .ok (.iload 5, 2) := by decide +kernel
theorem dc_O_setPart_15 : decode bc_O_setPart 15 = .ok (.iload_n 1, 1) := by decide +kernel
theorem dc_O_setPart_16 : decode bc_O_setPart 16 = .ok (.if_icmp .eq 20, 3) := by decide +kernel
theorem dc_O_setPart_19 : decode bc_O_setPart 19 = .ok (.iload 4, 2) := by decide +kernel
theorem dc_O_setPart_21 : decode bc_O_setPart 21 = .ok (.aload_n 0, 1) := by decide +kernel
theorem dc_O_setPart_22 : decode bc_O_setPart 22 = .ok (.getfield 9, 3) := by decide +kernel
theorem dc_O_setPart_25 : decode bc_O_setPart 25 = .ok (.iload 5, 2) := by decide +kernel
theorem dc_O_setPart_27 : decode bc_O_setPart 27 = .ok (.bipush 10, 2) := by decide +kernel
theorem dc_O_setPart_29 : decode bc_O_setPart 29 = .ok (.imul, 1) := by decide +kernel
theorem dc_O_setPart_30 : decode bc_O_setPart 30 = .ok (.iload_n 2, 1) := by decide +kernel
theorem dc_O_setPart_31 : decode bc_O_setPart 31 = .ok (.iadd, 1) := by decide +kernel
theorem dc_O_setPart_32 : decode bc_O_setPart 32 = .ok (.iaload, 1) := by decide +kernel
theorem dc_O_setPart_33 : decode bc_O_setPart 33 = .ok (.iadd, 1) := by decide +kernel
theorem dc_O_setPart_34 : decode bc_O_setPart 34 = .ok (.istore 4, 2) := by decide +kernel
theorem dc_O_setPart_36 : decode bc_O_setPart 36 = .ok (.iinc 5 1, 3) := by decide +kernel
theorem dc_O_setPart_39 : decode bc_O_setPart 39 = .ok (.goto (-33), 3) := by decide +kernel
theorem dc_O_setPart_42 : decode bc_O_setPart 42 = .ok (.iload 4, 2) := by decide +kernel
theorem dc_O_setPart_44 : decode bc_O_setPart 44 = .ok (.bipush 100, 2) := by decide +kernel
theorem dc_O_setPart_46 : decode bc_O_setPart 46 = .ok (.if_icmp .le 5, 3) := by decide +kernel
theorem dc_O_setPart_49 : decode bc_O_setPart 49 = .ok (.iconst 0, 1) := by decide +kernel
theorem dc_O_setPart_50 : decode bc_O_setPart 50 = .ok (.ireturn, 1) := by decide +kernel
theorem dc_O_setPart_51 : decode bc_O_setPart 51 = .ok (.aload_n 0, 1) := by decide +kernel
theorem dc_O_setPart_52 : decode bc_O_setPart 52 = .ok (.getfield 9, 3) := by decide +kernel
theorem dc_O_setPart_55 : decode bc_O_setPart 55 = .ok (.iload_n 1, 1) := by decide +kernel
theorem dc_O_setPart_56 : decode bc_O_setPart 56 = .ok (.bipush 10, 2) := by decide +kernel
theorem dc_O_setPart_58 : decode bc_O_setPart 58 = .ok (.imul, 1) := by decide +kernel
theorem dc_O_setPart_59 : decode bc_O_setPart 59 = .ok (.iload_n 2, 1) := by decide +kernel
theorem dc_O_setPart_60 : decode bc_O_setPart 60 = .ok (.iadd, 1) := by decide +kernel
theorem dc_O_setPart_61 : decode bc_O_setPart 61 = .ok (.iload_n 3, 1) := by decide +kernel
theorem dc_O_setPart_62 : decode bc_O_setPart 62 = .ok (.iastore, 1) := by decide +kernel
theorem dc_O_setPart_63 : decode bc_O_setPart 63 = .ok (.iconst 1, 1) := by decide +kernel
theorem dc_O_setPart_64 : decode bc_O_setPart 64 = .ok (.ireturn, 1) := by decide +kernel
theorem dc_O_findHolds_0 : decode bc_O_findHolds 0 = .ok (.iconst 0, 1) := by decide +kernel
theorem dc_O_findHolds_1 : decode bc_O_findHolds 1 = .ok (.istore_n 2, 1) := by decide +kernel
theorem dc_O_findHolds_2 : decode bc_O_findHolds 2 = .ok (.iload_n 2, 1) := by decide +kernel
theorem dc_O_findHolds_3 : decode bc_O_findHolds 3 = .ok (.bipush 10, 2) := by decide +kernel
theorem dc_O_findHolds_5 : decode bc_O_findHolds 5 = .ok (.if_icmp .ge 39, 3) := by decide +kernel
theorem dc_O_findHolds_8 : decode bc_O_findHolds 8 = .ok (.aload_n 0, 1) := by decide +kernel
theorem dc_O_findHolds_9 : decode bc_O_findHolds 9 = .ok (.getfield 15, 3) := by decide +kernel
theorem dc_O_findHolds_12 : decode bc_O_findHolds 12 = .ok (.iload_n 2, 1) := by decide +kernel
theorem dc_O_findHolds_13 : decode bc_O_findHolds 13 = .ok (.iload_n 2, 1) := by decide +kernel
theorem dc_O_findHolds_14 : decode bc_O_findHolds 14 = .ok (.iload_n 1, 1) := by decide +kernel
theorem dc_O_findHolds_15 : decode bc_O_findHolds 15 = .ok (.if_icmp .ne 9, 3) := by decide +kernel
theorem dc_O_findHolds_18 : decode bc_O_findHolds 18 = .ok (.ldc2_w 25, 3) := by decide +kernel
theorem dc_O_findHolds_21 : decode bc_O_findHolds 21 = .ok (.goto 4, 3) := by decide +kernel
theorem dc_O_findHolds_24 : decode bc_O_findHolds 24 = .ok (.lconst 0, 1) := by decide +kernel
theorem dc_O_findHolds_25 : decode bc_O_findHolds 25 = .ok (.lastore, 1) := by decide +kernel
theorem dc_O_findHolds_26 : decode bc_O_findHolds 26 = .ok (.aload_n 0, 1) := by decide +kernel
theorem dc_O_findHolds_27 : decode bc_O_findHolds 27 = .ok (.getfield 22, 3) := by decide +kernel
theorem dc_O_findHolds_30 : decode bc_O_findHolds 30 = .ok (.iload_n 2, 1) := by decide +kernel
theorem dc_O_findHolds_31 : decode bc_O_findHolds 31 = .ok (.aload_n 0, 1) := by decide +kernel
theorem dc_O_findHolds_32 : decode bc_O_findHolds 32 = .ok (.getfield 15, 3) := by decide +kernel
theorem dc_O_findHolds_35 : decode bc_O_findHolds 35 = .ok (.iload_n 2, 1) := by decide +kernel
theorem dc_O_findHolds_36 : decode bc_O_findHolds 36 = .ok (.laload, 1) := by decide +kernel
theorem dc_O_findHolds_37 : decode bc_O_findHolds 37 = .ok (.lastore, 1) := by decide +kernel
theorem dc_O_findHolds_38 : decode bc_O_findHolds 38 = .ok (.iinc 2 1, 3) := by decide +kernel
theorem dc_O_findHolds_41 : decode bc_O_findHolds 41 = .ok (.goto (-39), 3) := by decide +kernel
theorem dc_O_findHolds_44 : decode bc_O_findHolds 44 = .ok (.iconst 1, 1) := by decide +kernel
theorem dc_O_findHolds_45 : decode bc_O_findHolds 45 = .ok (.istore_n 2, 1) := by decide +kernel
theorem dc_O_findHolds_46 : decode bc_O_findHolds 46 = .ok (.iload_n 2, 1) := by decide +kernel
theorem dc_O_findHolds_47 : decode bc_O_findHolds 47 = .ok (.bipush 10, 2) := by decide +kernel
theorem dc_O_findHolds_49 : decode bc_O_findHolds 49 = .ok (.if_icmp .ge 42, 3) := by decide +kernel
theorem dc_O_findHolds_52 : decode bc_O_findHolds 52 = .ok (.aload_n 0, 1) := by decide +kernel
theorem dc_O_findHolds_53 : decode bc_O_findHolds 53 = .ok (.invokevirtual 27, 3) := by decide +kernel
theorem dc_O_findHolds_56 : decode bc_O_findHolds 56 = .ok (.iconst 0, 1) := by decide +kernel
theorem dc_O_findHolds_57 : decode bc_O_findHolds 57 = .ok (.istore_n 3, 1) := by decide +kernel
theorem dc_O_findHolds_58 : decode bc_O_findHolds 58 = .ok (.iload_n 3, 1) := by decide +kernel
theorem dc_O_findHolds_59 : decode bc_O_findHolds 59 = .ok (.bipush 10, 2) := by decide +kernel
theorem dc_O_findHolds_61 : decode bc_O_findHolds 61 = .ok (.if_icmp .ge 24, 3) := by decide +kernel
theorem dc_O_findHolds_64 : decode bc_O_findHolds 64 = .ok (.aload_n 0, 1) := by decide +kernel
theorem dc_O_findHolds_65 : decode bc_O_findHolds 65 = .ok (.getfield 22, 3) := by decide +kernel
theorem dc_O_findHolds_68 : decode bc_O_findHolds 68 = .ok (.iload_n 3, 1) := by decide +kernel
theorem dc_O_findHolds_69 : decode bc_O_findHolds 69 = .ok (.dup2, 1) := by decide +kernel
theorem dc_O_findHolds_70 : decode bc_O_findHolds 70 = .ok (.laload, 1) := by decide +kernel
theorem dc_O_findHolds_71 : decode bc_O_findHolds 71 = .ok (.aload_n 0, 1) := by decide +kernel
theorem dc_O_findHolds_72 : decode bc_O_findHolds 72 = .ok (.getfield 15, 3) := by decide +kernel
theorem dc_O_findHolds_75 : decode bc_O_findHolds 75 = .ok (.iload_n 3, 1) := by decide +kernel
theorem dc_O_findHolds_76 : decode bc_O_findHolds 76 = .ok (.laload, 1) := by decide +kernel
theorem dc_O_findHolds_77 : decode bc_O_findHolds 77 = .ok (.ladd, 1) := by decide +kernel
theorem dc_O_findHolds_78 : decode bc_O_findHolds 78 = .ok (.lastore, 1) := by decide +kernel
theorem dc_O_findHolds_79 : decode bc_O_findHolds 79 = .ok (.iinc 3 1, 3) := by decide +kernel
theorem dc_O_findHolds_82 : decode bc_O_findHolds 82 = .ok (.goto (-24), 3) := by decide +kernel
theorem dc_O_findHolds_85 : decode bc_O_findHolds 85 = .ok (.iinc 2 1, 3) := by decide +kernel
theorem dc_O_findHolds_88 : decode bc_O_findHolds 88 = .ok (.goto (-42), 3) := by decide +kernel
theorem dc_O_findHolds_91 : decode bc_O_findHolds 91 = .ok (.return_, 1) := by decide +kernel
theorem dc_O_found_0 : decode bc_O_found 0 = .ok (.iload_n 1, 1) := by decide +kernel
theorem dc_O_found_1 : decode bc_O_found 1 = .ok (.invokestatic 30, 3) := by decide +kernel
theorem dc_O_found_4 : decode bc_O_found 4 = .ok (.ifCond .eq 12, 3) := by decide +kernel
theorem dc_O_found_7 : decode bc_O_found 7 = .ok (.aload_n 0, 1) := by decide +kernel
theorem dc_O_found_8 : decode bc_O_found 8 = .ok (.getfield 22, 3) := by decide +kernel
theorem dc_O_found_11 : decode bc_O_found 11 = .ok (.iload_n 1, 1) := by decide +kernel
theorem dc_O_found_12 : decode bc_O_found 12 = .ok (.laload, 1) := by decide +kernel
theorem dc_O_found_13 : decode bc_O_found 13 = .ok (.goto 4, 3) := by decide +kernel
theorem dc_O_found_16 : decode bc_O_found 16 = .ok (.lconst 0, 1) := by decide +kernel
theorem dc_O_found_17 : decode bc_O_found 17 = .ok (.lreturn, 1) := by decide +kernel
theorem dc_O_lengthenWays_0 : decode bc_O_lengthenWays 0 = .ok (.iconst 0, 1) := by decide +kernel
theorem dc_O_lengthenWays_1 : decode bc_O_lengthenWays 1 = .ok (.istore_n 1, 1) := by decide +kernel
theorem dc_O_lengthenWays_2 : decode bc_O_lengthenWays 2 = .ok (.iload_n 1, 1) := by decide +kernel
theorem dc_O_lengthenWays_3 : decode bc_O_lengthenWays 3 = .ok (.bipush 10, 2) := by decide +kernel
theorem dc_O_lengthenWays_5 : decode bc_O_lengthenWays 5 = .ok (.if_icmp .ge 62, 3) := by decide +kernel
theorem dc_O_lengthenWays_8 : decode bc_O_lengthenWays 8 = .ok (.lconst 0, 1) := by decide +kernel
theorem dc_O_lengthenWays_9 : decode bc_O_lengthenWays 9 = .ok (.lstore_n 2, 1) := by decide +kernel
theorem dc_O_lengthenWays_10 : decode bc_O_lengthenWays 10 = .ok (.iconst 0, 1) := by decide +kernel
theorem dc_O_lengthenWays_11 : decode bc_O_lengthenWays 11 = .ok (.istore 4, 2) := by decide +kernel
theorem dc_O_lengthenWays_13 : decode bc_O_lengthenWays 13 = .ok (.iload 4, 2) := by decide +kernel
theorem dc_O_lengthenWays_15 : decode bc_O_lengthenWays 15 = .ok (.bipush 10, 2) := by decide +kernel
theorem dc_O_lengthenWays_17 : decode bc_O_lengthenWays 17 = .ok (.if_icmp .ge 37, 3) := by decide +kernel
theorem dc_O_lengthenWays_20 : decode bc_O_lengthenWays 20 = .ok (.lload_n 2, 1) := by decide +kernel
theorem dc_O_lengthenWays_21 : decode bc_O_lengthenWays 21 = .ok (.aload_n 0, 1) := by decide +kernel
theorem dc_O_lengthenWays_22 : decode bc_O_lengthenWays 22 = .ok (.getfield 15, 3) := by decide +kernel
theorem dc_O_lengthenWays_25 : decode bc_O_lengthenWays 25 = .ok (.iload 4, 2) := by decide +kernel
theorem dc_O_lengthenWays_27 : decode bc_O_lengthenWays 27 = .ok (.laload, 1) := by decide +kernel
theorem dc_O_lengthenWays_28 : decode bc_O_lengthenWays 28 = .ok (.ldc2_w 34, 3) := by decide +kernel
theorem dc_O_lengthenWays_31 : decode bc_O_lengthenWays 31 = .ok (.ldiv, 1) := by decide +kernel
theorem dc_O_lengthenWays_32 : decode bc_O_lengthenWays 32 = .ok (.aload_n 0, 1) := by decide +kernel
theorem dc_O_lengthenWays_33 : decode bc_O_lengthenWays 33 = .ok (.getfield 9, 3) := by decide +kernel
theorem dc_O_lengthenWays_36 : decode bc_O_lengthenWays 36 = .ok (.iload 4, 2) := by decide +kernel
theorem dc_O_lengthenWays_38 : decode bc_O_lengthenWays 38 = .ok (.bipush 10, 2) := by decide +kernel
theorem dc_O_lengthenWays_40 : decode bc_O_lengthenWays 40 = .ok (.imul, 1) := by decide +kernel
theorem dc_O_lengthenWays_41 : decode bc_O_lengthenWays 41 = .ok (.iload_n 1, 1) := by decide +kernel
theorem dc_O_lengthenWays_42 : decode bc_O_lengthenWays 42 = .ok (.iadd, 1) := by decide +kernel
theorem dc_O_lengthenWays_43 : decode bc_O_lengthenWays 43 = .ok (.iaload, 1) := by decide +kernel
theorem dc_O_lengthenWays_44 : decode bc_O_lengthenWays 44 = .ok (.i2l, 1) := by decide +kernel
theorem dc_O_lengthenWays_45 : decode bc_O_lengthenWays 45 = .ok (.lmul, 1) := by decide +kernel
theorem dc_O_lengthenWays_46 : decode bc_O_lengthenWays 46 = .ok (.ladd, 1) := by decide +kernel
theorem dc_O_lengthenWays_47 : decode bc_O_lengthenWays 47 = .ok (.lstore_n 2, 1) := by decide +kernel
theorem dc_O_lengthenWays_48 : decode bc_O_lengthenWays 48 = .ok (.iinc 4 1, 3) := by decide +kernel
theorem dc_O_lengthenWays_51 : decode bc_O_lengthenWays 51 = .ok (.goto (-38), 3) := by decide +kernel
theorem dc_O_lengthenWays_54 : decode bc_O_lengthenWays 54 = .ok (.aload_n 0, 1) := by decide +kernel
theorem dc_O_lengthenWays_55 : decode bc_O_lengthenWays 55 = .ok (.getfield 19, 3) := by decide +kernel
theorem dc_O_lengthenWays_58 : decode bc_O_lengthenWays 58 = .ok (.iload_n 1, 1) := by decide +kernel
theorem dc_O_lengthenWays_59 : decode bc_O_lengthenWays 59 = .ok (.lload_n 2, 1) := by decide +kernel
theorem dc_O_lengthenWays_60 : decode bc_O_lengthenWays 60 = .ok (.lastore, 1) := by decide +kernel
theorem dc_O_lengthenWays_61 : decode bc_O_lengthenWays 61 = .ok (.iinc 1 1, 3) := by decide +kernel
theorem dc_O_lengthenWays_64 : decode bc_O_lengthenWays 64 = .ok (.goto (-62), 3) := by decide +kernel
theorem dc_O_lengthenWays_67 : decode bc_O_lengthenWays 67 = .ok (.aload_n 0, 1) := by decide +kernel
theorem dc_O_lengthenWays_68 : decode bc_O_lengthenWays 68 = .ok (.getfield 19, 3) := by decide +kernel
theorem dc_O_lengthenWays_71 : decode bc_O_lengthenWays 71 = .ok (.iconst 0, 1) := by decide +kernel
theorem dc_O_lengthenWays_72 : decode bc_O_lengthenWays 72 = .ok (.aload_n 0, 1) := by decide +kernel
theorem dc_O_lengthenWays_73 : decode bc_O_lengthenWays 73 = .ok (.getfield 15, 3) := by decide +kernel
theorem dc_O_lengthenWays_76 : decode bc_O_lengthenWays 76 = .ok (.iconst 0, 1) := by decide +kernel
theorem dc_O_lengthenWays_77 : decode bc_O_lengthenWays 77 = .ok (.bipush 10, 2) := by decide +kernel
theorem dc_O_lengthenWays_79 : decode bc_O_lengthenWays 79 = .ok (.invokestatic 36, 3) := by decide +kernel
theorem dc_O_lengthenWays_82 : decode bc_O_lengthenWays 82 = .ok (.return_, 1) := by decide +kernel
theorem dc_S_init_0 : decode bc_S_init 0 = .ok (.aload_n 0, 1) := by decide +kernel
theorem dc_S_init_1 : decode bc_S_init 1 = .ok (.invokespecial 3, 3) := by decide +kernel
theorem dc_S_init_4 : decode bc_S_init 4 = .ok (.aload_n 0, 1) := by decide +kernel
theorem dc_S_init_5 : decode bc_S_init 5 = .ok (.iload_n 1, 1) := by decide +kernel
theorem dc_S_init_6 : decode bc_S_init 6 = .ok (.putfield 9, 3) := by decide +kernel
theorem dc_S_init_9 : decode bc_S_init 9 = .ok (.aload_n 0, 1) := by decide +kernel
theorem dc_S_init_10 : decode bc_S_init 10 = .ok (.lload_n 2, 1) := by decide +kernel
theorem dc_S_init_11 : decode bc_S_init 11 = .ok (.putfield 15, 3) := by decide +kernel
theorem dc_S_init_14 : decode bc_S_init 14 = .ok (.aload_n 0, 1) := by decide +kernel
theorem dc_S_init_15 : decode bc_S_init 15 = .ok (.bipush 12, 2) := by decide +kernel
theorem dc_S_init_17 : decode bc_S_init 17 = .ok (.newarray .long, 2) := by decide +kernel
theorem dc_S_init_19 : decode bc_S_init 19 = .ok (.putfield 19, 3) := by decide +kernel
theorem dc_S_init_22 : decode bc_S_init 22 = .ok (.aload_n 0, 1) := by decide +kernel
theorem dc_S_init_23 : decode bc_S_init 23 = .ok (.bipush 12, 2) := by decide +kernel
theorem dc_S_init_25 : decode bc_S_init 25 = .ok (.newarray .long, 2) := by decide +kernel
theorem dc_S_init_27 : decode bc_S_init 27 = .ok (.putfield 23, 3) := by decide +kernel
theorem dc_S_init_30 : decode bc_S_init 30 = .ok (.aload_n 0, 1) := by decide +kernel
theorem dc_S_init_31 : decode bc_S_init 31 = .ok (.iconst (-1), 1) := by decide +kernel
theorem dc_S_init_32 : decode bc_S_init 32 = .ok (.putfield 26, 3) := by decide +kernel
theorem dc_S_init_35 : decode bc_S_init 35 = .ok (.aload_n 0, 1) := by decide +kernel
theorem dc_S_init_36 : decode bc_S_init 36 = .ok (.bipush 100, 2) := by decide +kernel
theorem dc_S_init_38 : decode bc_S_init 38 = .ok (.putfield 29, 3) := by decide +kernel
theorem dc_S_init_41 : decode bc_S_init 41 = .ok (.return_, 1) := by decide +kernel
theorem dc_S_allWeights_0 : decode bc_S_allWeights 0 = .ok (.aload_n 0, 1) := by decide +kernel
theorem dc_S_allWeights_1 : decode bc_S_allWeights 1 = .ok (.getfield 19, 3) := by decide +kernel
theorem dc_S_allWeights_4 : decode bc_S_allWeights 4 = .ok (.invokestatic 32, 3) := by decide +kernel
theorem dc_S_allWeights_7 : decode bc_S_allWeights 7 = .ok (.lreturn, 1) := by decide +kernel
theorem dc_S_allShares_0 : decode bc_S_allShares 0 = .ok (.aload_n 0, 1) := by decide +kernel
theorem dc_S_allShares_1 : decode bc_S_allShares 1 = .ok (.getfield 23, 3) := by decide +kernel
theorem dc_S_allShares_4 : decode bc_S_allShares 4 = .ok (.invokestatic 32, 3) := by decide +kernel
theorem dc_S_allShares_7 : decode bc_S_allShares 7 = .ok (.lreturn, 1) := by decide +kernel
theorem dc_S_sumOf_0 : decode bc_S_sumOf 0 = .ok (.lconst 0, 1) := by decide +kernel
theorem dc_S_sumOf_1 : decode bc_S_sumOf 1 = .ok (.lstore_n 1, 1) := by decide +kernel
theorem dc_S_sumOf_2 : decode bc_S_sumOf 2 = .ok (.iconst 0, 1) := by decide +kernel
theorem dc_S_sumOf_3 : decode bc_S_sumOf 3 = .ok (.istore_n 3, 1) := by decide +kernel
theorem dc_S_sumOf_4 : decode bc_S_sumOf 4 = .ok (.iload_n 3, 1) := by decide +kernel
theorem dc_S_sumOf_5 : decode bc_S_sumOf 5 = .ok (.aload_n 0, 1) := by decide +kernel
theorem dc_S_sumOf_6 : decode bc_S_sumOf 6 = .ok (.arraylength, 1) := by decide +kernel
theorem dc_S_sumOf_7 : decode bc_S_sumOf 7 = .ok (.if_icmp .ge 15, 3) := by decide +kernel
theorem dc_S_sumOf_10 : decode bc_S_sumOf 10 = .ok (.lload_n 1, 1) := by decide +kernel
theorem dc_S_sumOf_11 : decode bc_S_sumOf 11 = .ok (.aload_n 0, 1) := by decide +kernel
theorem dc_S_sumOf_12 : decode bc_S_sumOf 12 = .ok (.iload_n 3, 1) := by decide +kernel
theorem dc_S_sumOf_13 : decode bc_S_sumOf 13 = .ok (.laload, 1) := by decide +kernel
theorem dc_S_sumOf_14 : decode bc_S_sumOf 14 = .ok (.ladd, 1) := by decide +kernel
theorem dc_S_sumOf_15 : decode bc_S_sumOf 15 = .ok (.lstore_n 1, 1) := by decide +kernel
theorem dc_S_sumOf_16 : decode bc_S_sumOf 16 = .ok (.iinc 3 1, 3) := by decide +kernel
theorem dc_S_sumOf_19 : decode bc_S_sumOf 19 = .ok (.goto (-15), 3) := by decide +kernel
theorem dc_S_sumOf_22 : decode bc_S_sumOf 22 = .ok (.lload_n 1, 1) := by decide +kernel
theorem dc_S_sumOf_23 : decode bc_S_sumOf 23 = .ok (.lreturn, 1) := by decide +kernel
theorem dc_S_countShares_0 : decode bc_S_countShares 0 = .ok (.iconst 0, 1) := by decide +kernel
theorem dc_S_countShares_1 : decode bc_S_countShares 1 = .ok (.istore_n 1, 1) := by decide +kernel
theorem dc_S_countShares_2 : decode bc_S_countShares 2 = .ok (.iconst 0, 1) := by decide +kernel
theorem dc_S_countShares_3 : decode bc_S_countShares 3 = .ok (.istore_n 2, 1) := by decide +kernel
theorem dc_S_countShares_4 : decode bc_S_countShares 4 = .ok (.iload_n 2, 1) := by decide +kernel
theorem dc_S_countShares_5 : decode bc_S_countShares 5 = .ok (.aload_n 0, 1) := by decide +kernel
theorem dc_S_countShares_6 : decode bc_S_countShares 6 = .ok (.getfield 23, 3) := by decide +kernel
theorem dc_S_countShares_9 : decode bc_S_countShares 9 = .ok (.arraylength, 1) := by decide +kernel
theorem dc_S_countShares_10 : decode bc_S_countShares 10 = .ok (.if_icmp .ge 23, 3) := by decide +kernel
theorem dc_S_countShares_13 : decode bc_S_countShares 13 = .ok (.aload_n 0, 1) := by decide +kernel
theorem dc_S_countShares_14 : decode bc_S_countShares 14 = .ok (.getfield 23, 3) := by decide +kernel
theorem dc_S_countShares_17 : decode bc_S_countShares 17 = .ok (.iload_n 2, 1) := by decide +kernel
theorem dc_S_countShares_18 : decode bc_S_countShares 18 = .ok (.laload, 1) := by decide +kernel
theorem dc_S_countShares_19 : decode bc_S_countShares 19 = .ok (.lconst 0, 1) := by decide +kernel
theorem dc_S_countShares_20 : decode bc_S_countShares 20 = .ok (.lcmp, 1) := by decide +kernel
theorem dc_S_countShares_21 : decode bc_S_countShares 21 = .ok (.ifCond .le 6, 3) := by decide +kernel
theorem dc_S_countShares_24 : decode bc_S_countShares 24 = .ok (.iinc 1 1, 3) := by decide +kernel
theorem dc_S_countShares_27 : decode bc_S_countShares 27 = .ok (.iinc 2 1, 3) := by decide +kernel
theorem dc_S_countShares_30 : decode bc_S_countShares 30 = .ok (.goto (-26), 3) := by decide +kernel
theorem dc_S_countShares_33 : decode bc_S_countShares 33 = .ok (.iload_n 1, 1) := by decide +kernel
theorem dc_S_countShares_34 : decode bc_S_countShares 34 = .ok (.ireturn, 1) := by decide +kernel
theorem dc_S_shareOut_0 : decode bc_S_shareOut 0 = .ok (.aload_n 0, 1) := by decide +kernel
theorem dc_S_shareOut_1 : decode bc_S_shareOut 1 = .ok (.invokevirtual 36, 3) := by decide +kernel
theorem dc_S_shareOut_4 : decode bc_S_shareOut 4 = .ok (.lstore_n 1, 1) := by decide +kernel
theorem dc_S_shareOut_5 : decode bc_S_shareOut 5 = .ok (.lload_n 1, 1) := by decide +kernel
theorem dc_S_shareOut_6 : decode bc_S_shareOut 6 = .ok (.lconst 1, 1) := by decide +kernel
theorem dc_S_shareOut_7 : decode bc_S_shareOut 7 = .ok (.lcmp, 1) := by decide +kernel
theorem dc_S_shareOut_8 : decode bc_S_shareOut 8 = .ok (.ifCond .ge 5, 3) := by decide +kernel
theorem dc_S_shareOut_11 : decode bc_S_shareOut 11 = .ok (.iconst 0, 1) := by decide +kernel
theorem dc_S_shareOut_12 : decode bc_S_shareOut 12 = .ok (.ireturn, 1) := by decide +kernel
theorem dc_S_shareOut_13 : decode bc_S_shareOut 13 = .ok (.aload_n 0, 1) := by decide +kernel
theorem dc_S_shareOut_14 : decode bc_S_shareOut 14 = .ok (.getfield 15, 3) := by decide +kernel
theorem dc_S_shareOut_17 : decode bc_S_shareOut 17 = .ok (.aload_n 0, 1) := by decide +kernel
theorem dc_S_shareOut_18 : decode bc_S_shareOut 18 = .ok (.getfield 40, 3) := by decide +kernel
theorem dc_S_shareOut_21 : decode bc_S_shareOut 21 = .ok (.lsub, 1) := by decide +kernel
theorem dc_S_shareOut_22 : decode bc_S_shareOut 22 = .ok (.lstore_n 3, 1) := by decide +kernel
theorem dc_S_shareOut_23 : decode bc_S_shareOut 23 = .ok (.lload_n 3, 1) := by decide +kernel
theorem dc_S_shareOut_24 : decode bc_S_shareOut 24 = .ok (.lstore 5, 2) := by decide +kernel
theorem dc_S_shareOut_26 : decode bc_S_shareOut 26 = .ok (.iconst 0, 1) := by decide +kernel
theorem dc_S_shareOut_27 : decode bc_S_shareOut 27 = .ok (.istore 7, 2) := by decide +kernel
theorem dc_S_shareOut_29 : decode bc_S_shareOut 29 = .ok (.iload 7, 2) := by decide +kernel
theorem dc_S_shareOut_31 : decode bc_S_shareOut 31 = .ok (.aload_n 0, 1) := by decide +kernel
theorem dc_S_shareOut_32 : decode bc_S_shareOut 32 = .ok (.getfield 23, 3) := by decide +kernel
theorem dc_S_shareOut_35 : decode bc_S_shareOut 35 = .ok (.arraylength, 1) := by decide +kernel
theorem dc_S_shareOut_36 : decode bc_S_shareOut 36 = .ok (.if_icmp .ge 39, 3) := by decide +kernel
theorem dc_S_shareOut_39 : decode bc_S_shareOut 39 = .ok (.aload_n 0, 1) := by decide +kernel
theorem dc_S_shareOut_40 : decode bc_S_shareOut 40 = .ok (.getfield 23, 3) := by decide +kernel
theorem dc_S_shareOut_43 : decode bc_S_shareOut 43 = .ok (.iload 7, 2) := by decide +kernel
theorem dc_S_shareOut_45 : decode bc_S_shareOut 45 = .ok (.lload_n 3, 1) := by decide +kernel
theorem dc_S_shareOut_46 : decode bc_S_shareOut 46 = .ok (.aload_n 0, 1) := by decide +kernel
theorem dc_S_shareOut_47 : decode bc_S_shareOut 47 = .ok (.getfield 19, 3) := by decide +kernel
theorem dc_S_shareOut_50 : decode bc_S_shareOut 50 = .ok (.iload 7, 2) := by decide +kernel
theorem dc_S_shareOut_52 : decode bc_S_shareOut 52 = .ok (.laload, 1) := by decide +kernel
theorem dc_S_shareOut_53 : decode bc_S_shareOut 53 = .ok (.lmul, 1) := by decide +kernel
theorem dc_S_shareOut_54 : decode bc_S_shareOut 54 = .ok (.lload_n 1, 1) := by decide +kernel
theorem dc_S_shareOut_55 : decode bc_S_shareOut 55 = .ok (.ldiv, 1) := by decide +kernel
theorem dc_S_shareOut_56 : decode bc_S_shareOut 56 = .ok (.lastore, 1) := by decide +kernel
theorem dc_S_shareOut_57 : decode bc_S_shareOut 57 = .ok (.lload 5, 2) := by decide +kernel
theorem dc_S_shareOut_59 : decode bc_S_shareOut 59 = .ok (.aload_n 0, 1) := by decide +kernel
theorem dc_S_shareOut_60 : decode bc_S_shareOut 60 = .ok (.getfield 23, 3) := by decide +kernel
theorem dc_S_shareOut_63 : decode bc_S_shareOut 63 = .ok (.iload 7, 2) := by decide +kernel
theorem dc_S_shareOut_65 : decode bc_S_shareOut 65 = .ok (.laload, 1) := by decide +kernel
theorem dc_S_shareOut_66 : decode bc_S_shareOut 66 = .ok (.lsub, 1) := by decide +kernel
theorem dc_S_shareOut_67 : decode bc_S_shareOut 67 = .ok (.lstore 5, 2) := by decide +kernel
theorem dc_S_shareOut_69 : decode bc_S_shareOut 69 = .ok (.iinc 7 1, 3) := by decide +kernel
theorem dc_S_shareOut_72 : decode bc_S_shareOut 72 = .ok (.goto (-43), 3) := by decide +kernel
theorem dc_S_shareOut_75 : decode bc_S_shareOut 75 = .ok (.iconst 0, 1) := by decide +kernel
theorem dc_S_shareOut_76 : decode bc_S_shareOut 76 = .ok (.istore 7, 2) := by decide +kernel
theorem dc_S_shareOut_78 : decode bc_S_shareOut 78 = .ok (.iload 7, 2) := by decide +kernel
theorem dc_S_shareOut_80 : decode bc_S_shareOut 80 = .ok (.aload_n 0, 1) := by decide +kernel
theorem dc_S_shareOut_81 : decode bc_S_shareOut 81 = .ok (.getfield 23, 3) := by decide +kernel
theorem dc_S_shareOut_84 : decode bc_S_shareOut 84 = .ok (.arraylength, 1) := by decide +kernel
theorem dc_S_shareOut_85 : decode bc_S_shareOut 85 = .ok (.if_icmp .ge 35, 3) := by decide +kernel
theorem dc_S_shareOut_88 : decode bc_S_shareOut 88 = .ok (.aload_n 0, 1) := by decide +kernel
theorem dc_S_shareOut_89 : decode bc_S_shareOut 89 = .ok (.iload 7, 2) := by decide +kernel
theorem dc_S_shareOut_91 : decode bc_S_shareOut 91 = .ok (.lload_n 3, 1) := by decide +kernel
theorem dc_S_shareOut_92 : decode bc_S_shareOut 92 = .ok (.lload_n 1, 1) := by decide +kernel
theorem dc_S_shareOut_93 : decode bc_S_shareOut 93 = .ok (.invokevirtual 43, 3) := by decide +kernel
theorem dc_S_shareOut_96 : decode bc_S_shareOut 96 = .ok (.i2l, 1) := by decide +kernel
theorem dc_S_shareOut_97 : decode bc_S_shareOut 97 = .ok (.lload 5, 2) := by decide +kernel
theorem dc_S_shareOut_99 : decode bc_S_shareOut 99 = .ok (.lcmp, 1) := by decide +kernel
theorem dc_S_shareOut_100 : decode bc_S_shareOut 100 = .ok (.ifCond .ge 14, 3) := by decide +kernel
theorem dc_S_shareOut_103 : decode bc_S_shareOut 103 = .ok (.aload_n 0, 1) := by decide +kernel
theorem dc_S_shareOut_104 : decode bc_S_shareOut 104 = .ok (.getfield 23, 3) := by decide +kernel
theorem dc_S_shareOut_107 : decode bc_S_shareOut 107 = .ok (.iload 7, 2) := by decide +kernel
theorem dc_S_shareOut_109 : decode bc_S_shareOut 109 = .ok (.dup2, 1) := by decide +kernel
theorem dc_S_shareOut_110 : decode bc_S_shareOut 110 = .ok (.laload, 1) := by decide +kernel
theorem dc_S_shareOut_111 : decode bc_S_shareOut 111 = .ok (.lconst 1, 1) := by decide +kernel
theorem dc_S_shareOut_112 : decode bc_S_shareOut 112 = .ok (.ladd, 1) := by decide +kernel
theorem dc_S_shareOut_113 : decode bc_S_shareOut 113 = .ok (.lastore, 1) := by decide +kernel
theorem dc_S_shareOut_114 : decode bc_S_shareOut 114 = .ok (.iinc 7 1, 3) := by decide +kernel
theorem dc_S_shareOut_117 : decode bc_S_shareOut 117 = .ok (.goto (-39), 3) := by decide +kernel
theorem dc_S_shareOut_120 : decode bc_S_shareOut 120 = .ok (.aload_n 0, 1) := by decide +kernel
theorem dc_S_shareOut_121 : decode bc_S_shareOut 121 = .ok (.lload_n 3, 1) := by decide +kernel
theorem dc_S_shareOut_122 : decode bc_S_shareOut 122 = .ok (.putfield 47, 3) := by decide +kernel
theorem dc_S_shareOut_125 : decode bc_S_shareOut 125 = .ok (.iconst 1, 1) := by decide +kernel
theorem dc_S_shareOut_126 : decode bc_S_shareOut 126 = .ok (.ireturn, 1) := by decide +kernel
theorem dc_S_rankByRest_0 : decode bc_S_rankByRest 0 = .ok (.aload_n 0, 1) := by decide +kernel
theorem dc_S_rankByRest_1 : decode bc_S_rankByRest 1 = .ok (.iload_n 1, 1) := by decide +kernel
theorem dc_S_rankByRest_2 : decode bc_S_rankByRest 2 = .ok (.lload_n 2, 1) := by decide +kernel
theorem dc_S_rankByRest_3 : decode bc_S_rankByRest 3 = .ok (.lload 4, 2) := by decide +kernel
theorem dc_S_rankByRest_5 : decode bc_S_rankByRest 5 = .ok (.invokevirtual 50, 3) := by decide +kernel
theorem dc_S_rankByRest_8 : decode bc_S_rankByRest 8 = .ok (.lstore 6, 2) := by decide +kernel
theorem dc_S_rankByRest_10 : decode bc_S_rankByRest 10 = .ok (.iconst 0, 1) := by decide +kernel
theorem dc_S_rankByRest_11 : decode bc_S_rankByRest 11 = .ok (.istore 8, 2) := by decide +kernel
theorem dc_S_rankByRest_13 : decode bc_S_rankByRest 13 = .ok (.iconst 0, 1) := by decide +kernel
theorem dc_S_rankByRest_14 : decode bc_S_rankByRest 14 = .ok (.istore 9, 2) := by decide +kernel
theorem dc_S_rankByRest_16 : decode bc_S_rankByRest 16 = .ok (.iload 9, 2) := by decide +kernel
theorem dc_S_rankByRest_18 : decode bc_S_rankByRest 18 = .ok (.aload_n 0, 1) := by decide +kernel
theorem dc_S_rankByRest_19 : decode bc_S_rankByRest 19 = .ok (.getfield 19, 3) := by decide +kernel
theorem dc_S_rankByRest_22 : decode bc_S_rankByRest 22 = .ok (.arraylength, 1) := by decide +kernel
theorem dc_S_rankByRest_23 : decode bc_S_rankByRest 23 = .ok (.if_icmp .ge 45, 3) := by decide +kernel
theorem dc_S_rankByRest_26 : decode bc_S_rankByRest 26 = .ok (.aload_n 0, 1) := by decide +kernel
theorem dc_S_rankByRest_27 : decode bc_S_rankByRest 27 = .ok (.iload 9, 2) := by decide +kernel
theorem dc_S_rankByRest_29 : decode bc_S_rankByRest 29 = .ok (.lload_n 2, 1) := by decide +kernel
theorem dc_S_rankByRest_30 : decode bc_S_rankByRest 30 = .ok (.lload 4, 2) := by decide +kernel
theorem dc_S_rankByRest_32 : decode bc_S_rankByRest 32 = .ok (.invokevirtual 50, 3) := by decide +kernel
theorem dc_S_rankByRest_35 : decode bc_S_rankByRest 35 = .ok (.lstore 10, 2) := by decide +kernel
theorem dc_S_rankByRest_37 : decode bc_S_rankByRest 37 = .ok (.lload 10, 2) := by decide +kernel
theorem dc_S_rankByRest_39 : decode bc_S_rankByRest 39 = .ok (.lload 6, 2) := by decide +kernel
theorem dc_S_rankByRest_41 : decode bc_S_rankByRest 41 = .ok (.lcmp, 1) := by decide +kernel
theorem dc_S_rankByRest_42 : decode bc_S_rankByRest 42 = .ok (.ifCond .gt 17, 3) := by decide +kernel
theorem dc_S_rankByRest_45 : decode bc_S_rankByRest 45 = .ok (.lload 10, 2) := by decide +kernel
theorem dc_S_rankByRest_47 : decode bc_S_rankByRest 47 = .ok (.lload 6, 2) := by decide +kernel
theorem dc_S_rankByRest_49 : decode bc_S_rankByRest 49 = .ok (.lcmp, 1) := by decide +kernel
theorem dc_S_rankByRest_50 : decode bc_S_rankByRest 50 = .ok (.ifCond .ne 12, 3) := by decide +kernel
theorem dc_S_rankByRest_53 : decode bc_S_rankByRest 53 = .ok (.iload 9, 2) := by decide +kernel
theorem dc_S_rankByRest_55 : decode bc_S_rankByRest 55 = .ok (.iload_n 1, 1) := by decide +kernel
theorem dc_S_rankByRest_56 : decode bc_S_rankByRest 56 = .ok (.if_icmp .ge 6, 3) := by decide +kernel
theorem dc_S_rankByRest_59 : decode bc_S_rankByRest 59 = .ok (.iinc 8 1, 3) := by decide +kernel
theorem dc_S_rankByRest_62 : decode bc_S_rankByRest 62 = .ok (.iinc 9 1, 3) := by decide +kernel
theorem dc_S_rankByRest_65 : decode bc_S_rankByRest 65 = .ok (.goto (-49), 3) := by decide +kernel
theorem dc_S_rankByRest_68 : decode bc_S_rankByRest 68 = .ok (.iload 8, 2) := by decide +kernel
theorem dc_S_rankByRest_70 : decode bc_S_rankByRest 70 = .ok (.ireturn, 1) := by decide +kernel
theorem dc_S_restOf_0 : decode bc_S_restOf 0 = .ok (.lload 4, 2) := by decide +kernel
theorem dc_S_restOf_2 : decode bc_S_restOf 2 = .ok (.lconst 1, 1) := by decide +kernel
theorem dc_S_restOf_3 : decode bc_S_restOf 3 = .ok (.lcmp, 1) := by decide +kernel
theorem dc_S_restOf_4 : decode bc_S_restOf 4 = .ok (.ifCond .ge 7, 3) := by decide +kernel
theorem dc_S_restOf_7 : decode bc_S_restOf 7 = .ok (.lconst 0, 1) := by decide +kernel
theorem dc_S_restOf_8 : decode bc_S_restOf 8 = .ok (.goto 14, 3) := by decide +kernel
theorem dc_S_restOf_11 : decode bc_S_restOf 11 = .ok (.lload_n 2, 1) := by decide +kernel
theorem dc_S_restOf_12 : decode bc_S_restOf 12 = .ok (.aload_n 0, 1) := by decide +kernel
theorem dc_S_restOf_13 : decode bc_S_restOf 13 = .ok (.getfield 19, 3) := by decide +kernel
theorem dc_S_restOf_16 : decode bc_S_restOf 16 = .ok (.iload_n 1, 1) := by decide +kernel
theorem dc_S_restOf_17 : decode bc_S_restOf 17 = .ok (.laload, 1) := by decide +kernel
theorem dc_S_restOf_18 : decode bc_S_restOf 18 = .ok (.lmul, 1) := by decide +kernel
theorem dc_S_restOf_19 : decode bc_S_restOf 19 = .ok (.lload 4, 2) := by decide +kernel
theorem dc_S_restOf_21 : decode bc_S_restOf 21 = .ok (.lrem, 1) := by decide +kernel
theorem dc_S_restOf_22 : decode bc_S_restOf 22 = .ok (.lreturn, 1) := by decide +kernel
theorem dc_S_carryIn_0 : decode bc_S_carryIn 0 = .ok (.lconst 0, 1) := by decide +kernel
theorem dc_S_carryIn_1 : decode bc_S_carryIn 1 = .ok (.aload_n 0, 1) := by decide +kernel
theorem dc_S_carryIn_2 : decode bc_S_carryIn 2 = .ok (.getfield 23, 3) := by decide +kernel
theorem dc_S_carryIn_5 : decode bc_S_carryIn 5 = .ok (.iload_n 1, 1) := by decide +kernel
theorem dc_S_carryIn_6 : decode bc_S_carryIn 6 = .ok (.laload, 1) := by decide +kernel
theorem dc_S_carryIn_7 : decode bc_S_carryIn 7 = .ok (.lload_n 2, 1) := by decide +kernel
theorem dc_S_carryIn_8 : decode bc_S_carryIn 8 = .ok (.ladd, 1) := by decide +kernel
theorem dc_S_carryIn_9 : decode bc_S_carryIn 9 = .ok (.invokestatic 54, 3) := by decide +kernel
theorem dc_S_carryIn_12 : decode bc_S_carryIn 12 = .ok (.lstore 4, 2) := by decide +kernel
theorem dc_S_carryIn_14 : decode bc_S_carryIn 14 = .ok (.aload_n 0, 1) := by decide +kernel
theorem dc_S_carryIn_15 : decode bc_S_carryIn 15 = .ok (.dup, 1) := by decide +kernel
theorem dc_S_carryIn_16 : decode bc_S_carryIn 16 = .ok (.getfield 47, 3) := by decide +kernel
theorem dc_S_carryIn_19 : decode bc_S_carryIn 19 = .ok (.lload 4, 2) := by decide +kernel
theorem dc_S_carryIn_21 : decode bc_S_carryIn 21 = .ok (.aload_n 0, 1) := by decide +kernel
theorem dc_S_carryIn_22 : decode bc_S_carryIn 22 = .ok (.getfield 23, 3) := by decide +kernel
theorem dc_S_carryIn_25 : decode bc_S_carryIn 25 = .ok (.iload_n 1, 1) := by decide +kernel
theorem dc_S_carryIn_26 : decode bc_S_carryIn 26 = .ok (.laload, 1) := by decide +kernel
theorem dc_S_carryIn_27 : decode bc_S_carryIn 27 = .ok (.lsub, 1) := by decide +kernel
theorem dc_S_carryIn_28 : decode bc_S_carryIn 28 = .ok (.ladd, 1) := by decide +kernel
theorem dc_S_carryIn_29 : decode bc_S_carryIn 29 = .ok (.putfield 47, 3) := by decide +kernel
theorem dc_S_carryIn_32 : decode bc_S_carryIn 32 = .ok (.aload_n 0, 1) := by decide +kernel
theorem dc_S_carryIn_33 : decode bc_S_carryIn 33 = .ok (.getfield 23, 3) := by decide +kernel
theorem dc_S_carryIn_36 : decode bc_S_carryIn 36 = .ok (.iload_n 1, 1) := by decide +kernel
theorem dc_S_carryIn_37 : decode bc_S_carryIn 37 = .ok (.lload 4, 2) := by decide +kernel
theorem dc_S_carryIn_39 : decode bc_S_carryIn 39 = .ok (.lastore, 1) := by decide +kernel
theorem dc_S_carryIn_40 : decode bc_S_carryIn 40 = .ok (.return_, 1) := by decide +kernel
theorem dc_S_swapShare_0 : decode bc_S_swapShare 0 = .ok (.aload_n 0, 1) := by decide +kernel
theorem dc_S_swapShare_1 : decode bc_S_swapShare 1 = .ok (.getfield 23, 3) := by decide +kernel
theorem dc_S_swapShare_4 : decode bc_S_swapShare 4 = .ok (.iload_n 1, 1) := by decide +kernel
theorem dc_S_swapShare_5 : decode bc_S_swapShare 5 = .ok (.dup2, 1) := by decide +kernel
theorem dc_S_swapShare_6 : decode bc_S_swapShare 6 = .ok (.laload, 1) := by decide +kernel
theorem dc_S_swapShare_7 : decode bc_S_swapShare 7 = .ok (.lload_n 2, 1) := by decide +kernel
theorem dc_S_swapShare_8 : decode bc_S_swapShare 8 = .ok (.ladd, 1) := by decide +kernel
theorem dc_S_swapShare_9 : decode bc_S_swapShare 9 = .ok (.lastore, 1) := by decide +kernel
theorem dc_S_swapShare_10 : decode bc_S_swapShare 10 = .ok (.aload_n 0, 1) := by decide +kernel
theorem dc_S_swapShare_11 : decode bc_S_swapShare 11 = .ok (.dup, 1) := by decide +kernel
theorem dc_S_swapShare_12 : decode bc_S_swapShare 12 = .ok (.getfield 47, 3) := by decide +kernel
theorem dc_S_swapShare_15 : decode bc_S_swapShare 15 = .ok (.lload_n 2, 1) := by decide +kernel
theorem dc_S_swapShare_16 : decode bc_S_swapShare 16 = .ok (.ladd, 1) := by decide +kernel
theorem dc_S_swapShare_17 : decode bc_S_swapShare 17 = .ok (.putfield 47, 3) := by decide +kernel
theorem dc_S_swapShare_20 : decode bc_S_swapShare 20 = .ok (.return_, 1) := by decide +kernel
theorem dc_C_init_0 : decode bc_C_init 0 = .ok (.aload_n 0, 1) := by decide +kernel
theorem dc_C_init_1 : decode bc_C_init 1 = .ok (.invokespecial 1, 3) := by decide +kernel
theorem dc_C_init_4 : decode bc_C_init 4 = .ok (.aload_n 0, 1) := by decide +kernel
theorem dc_C_init_5 : decode bc_C_init 5 = .ok (.bipush 8, 2) := by decide +kernel
theorem dc_C_init_7 : decode bc_C_init 7 = .ok (.anewarray 9, 3) := by decide +kernel
theorem dc_C_init_10 : decode bc_C_init 10 = .ok (.putfield 11, 3) := by decide +kernel
theorem dc_C_init_13 : decode bc_C_init 13 = .ok (.aload_n 0, 1) := by decide +kernel
theorem dc_C_init_14 : decode bc_C_init 14 = .ok (.bipush 12, 2) := by decide +kernel
theorem dc_C_init_16 : decode bc_C_init 16 = .ok (.newarray .int, 2) := by decide +kernel
theorem dc_C_init_18 : decode bc_C_init 18 = .ok (.putfield 15, 3) := by decide +kernel
theorem dc_C_init_21 : decode bc_C_init 21 = .ok (.aload_n 0, 1) := by decide +kernel
theorem dc_C_init_22 : decode bc_C_init 22 = .ok (.bipush 12, 2) := by decide +kernel
theorem dc_C_init_24 : decode bc_C_init 24 = .ok (.newarray .int, 2) := by decide +kernel
theorem dc_C_init_26 : decode bc_C_init 26 = .ok (.putfield 19, 3) := by decide +kernel
theorem dc_C_init_29 : decode bc_C_init 29 = .ok (.aload_n 0, 1) := by decide +kernel
theorem dc_C_init_30 : decode bc_C_init 30 = .ok (.new 22, 3) := by decide +kernel
theorem dc_C_init_33 : decode bc_C_init 33 = .ok (.dup, 1) := by decide +kernel
theorem dc_C_init_34 : decode bc_C_init 34 = .ok (.invokespecial 24, 3) := by decide +kernel
theorem dc_C_init_37 : decode bc_C_init 37 = .ok (.putfield 25, 3) := by decide +kernel
theorem dc_C_init_40 : decode bc_C_init 40 = .ok (.aload_n 0, 1) := by decide +kernel
theorem dc_C_init_41 : decode bc_C_init 41 = .ok (.new 29, 3) := by decide +kernel
theorem dc_C_init_44 : decode bc_C_init 44 = .ok (.dup, 1) := by decide +kernel
theorem dc_C_init_45 : decode bc_C_init 45 = .ok (.invokespecial 31, 3) := by decide +kernel
theorem dc_C_init_48 : decode bc_C_init 48 = .ok (.putfield 32, 3) := by decide +kernel
theorem dc_C_init_51 : decode bc_C_init 51 = .ok (.aload_n 0, 1) := by decide +kernel
theorem dc_C_init_52 : decode bc_C_init 52 = .ok (.iconst 1, 1) := by decide +kernel
theorem dc_C_init_53 : decode bc_C_init 53 = .ok (.putfield 36, 3) := by decide +kernel
theorem dc_C_init_56 : decode bc_C_init 56 = .ok (.aload_n 0, 1) := by decide +kernel
theorem dc_C_init_57 : decode bc_C_init 57 = .ok (.iconst 1, 1) := by decide +kernel
theorem dc_C_init_58 : decode bc_C_init 58 = .ok (.putfield 40, 3) := by decide +kernel
theorem dc_C_init_61 : decode bc_C_init 61 = .ok (.return_, 1) := by decide +kernel
theorem dc_C_stock_0 : decode bc_C_stock 0 = .ok (.aload_n 0, 1) := by decide +kernel
theorem dc_C_stock_1 : decode bc_C_stock 1 = .ok (.getfield 43, 3) := by decide +kernel
theorem dc_C_stock_4 : decode bc_C_stock 4 = .ok (.bipush 8, 2) := by decide +kernel
theorem dc_C_stock_6 : decode bc_C_stock 6 = .ok (.if_icmp .ge 14, 3) := by decide +kernel
theorem dc_C_stock_9 : decode bc_C_stock 9 = .ok (.lload_n 1, 1) := by decide +kernel
theorem dc_C_stock_10 : decode bc_C_stock 10 = .ok (.lconst 0, 1) := by decide +kernel
theorem dc_C_stock_11 : decode bc_C_stock 11 = .ok (.ldc2_w 46, 3) := by decide +kernel
theorem dc_C_stock_14 : decode bc_C_stock 14 = .ok (.invokestatic 48, 3) := by decide +kernel
theorem dc_C_stock_17 : decode bc_C_stock 17 = .ok (.ifCond .ne 5, 3) := by decide +kernel
theorem dc_C_stock_20 : decode bc_C_stock 20 = .ok (.iconst (-1), 1) := by decide +kernel
theorem dc_C_stock_21 : decode bc_C_stock 21 = .ok (.ireturn, 1) := by decide +kernel
theorem dc_C_stock_22 : decode bc_C_stock 22 = .ok (.aload_n 0, 1) := by decide +kernel
theorem dc_C_stock_23 : decode bc_C_stock 23 = .ok (.getfield 43, 3) := by decide +kernel
theorem dc_C_stock_26 : decode bc_C_stock 26 = .ok (.istore_n 3, 1) := by decide +kernel
theorem dc_C_stock_27 : decode bc_C_stock 27 = .ok (.aload_n 0, 1) := by decide +kernel
theorem dc_C_stock_28 : decode bc_C_stock 28 = .ok (.getfield 11, 3) := by decide +kernel
theorem dc_C_stock_31 : decode bc_C_stock 31 = .ok (.iload_n 3, 1) := by decide +kernel
theorem dc_C_stock_32 : decode bc_C_stock 32 = .ok (.new 9, 3) := by decide +kernel
theorem dc_C_stock_35 : decode bc_C_stock 35 = .ok (.dup, 1) := by decide +kernel
theorem dc_C_stock_36 : decode bc_C_stock 36 = .ok (.iload_n 3, 1) := by decide +kernel
theorem dc_C_stock_37 : decode bc_C_stock 37 = .ok (.lload_n 1, 1) := by decide +kernel
theorem dc_C_stock_38 : decode bc_C_stock 38 = .ok (.invokespecial 52, 3) := by decide +kernel
theorem dc_C_stock_41 : decode bc_C_stock 41 = .ok (.aastore, 1) := by decide +kernel
theorem dc_C_stock_42 : decode bc_C_stock 42 = .ok (.aload_n 0, 1) := by decide +kernel
theorem dc_C_stock_43 : decode bc_C_stock 43 = .ok (.dup, 1) := by decide +kernel
theorem dc_C_stock_44 : decode bc_C_stock 44 = .ok (.getfield 43, 3) := by decide +kernel
theorem dc_C_stock_47 : decode bc_C_stock 47 = .ok (.iconst 1, 1) := by decide +kernel
theorem dc_C_stock_48 : decode bc_C_stock 48 = .ok (.iadd, 1) := by decide +kernel
theorem dc_C_stock_49 : decode bc_C_stock 49 = .ok (.putfield 43, 3) := by decide +kernel
theorem dc_C_stock_52 : decode bc_C_stock 52 = .ok (.iload_n 3, 1) := by decide +kernel
theorem dc_C_stock_53 : decode bc_C_stock 53 = .ok (.ireturn, 1) := by decide +kernel
theorem dc_C_holder_0 : decode bc_C_holder 0 = .ok (.aload_n 0, 1) := by decide +kernel
theorem dc_C_holder_1 : decode bc_C_holder 1 = .ok (.getfield 55, 3) := by decide +kernel
theorem dc_C_holder_4 : decode bc_C_holder 4 = .ok (.bipush 12, 2) := by decide +kernel
theorem dc_C_holder_6 : decode bc_C_holder 6 = .ok (.if_icmp .ge 10, 3) := by decide +kernel
theorem dc_C_holder_9 : decode bc_C_holder 9 = .ok (.iload_n 1, 1) := by decide +kernel
theorem dc_C_holder_10 : decode bc_C_holder 10 = .ok (.invokestatic 58, 3) := by decide +kernel
theorem dc_C_holder_13 : decode bc_C_holder 13 = .ok (.ifCond .ne 5, 3) := by decide +kernel
theorem dc_C_holder_16 : decode bc_C_holder 16 = .ok (.iconst (-1), 1) := by decide +kernel
theorem dc_C_holder_17 : decode bc_C_holder 17 = .ok (.ireturn, 1) := by decide +kernel
theorem dc_C_holder_18 : decode bc_C_holder 18 = .ok (.aload_n 0, 1) := by decide +kernel
theorem dc_C_holder_19 : decode bc_C_holder 19 = .ok (.getfield 55, 3) := by decide +kernel
theorem dc_C_holder_22 : decode bc_C_holder 22 = .ok (.istore_n 2, 1) := by decide +kernel
theorem dc_C_holder_23 : decode bc_C_holder 23 = .ok (.aload_n 0, 1) := by decide +kernel
theorem dc_C_holder_24 : decode bc_C_holder 24 = .ok (.getfield 15, 3) := by decide +kernel
theorem dc_C_holder_27 : decode bc_C_holder 27 = .ok (.iload_n 2, 1) := by decide +kernel
theorem dc_C_holder_28 : decode bc_C_holder 28 = .ok (.iload_n 1, 1) := by decide +kernel
theorem dc_C_holder_29 : decode bc_C_holder 29 = .ok (.iastore, 1) := by decide +kernel
theorem dc_C_holder_30 : decode bc_C_holder 30 = .ok (.aload_n 0, 1) := by decide +kernel
theorem dc_C_holder_31 : decode bc_C_holder 31 = .ok (.getfield 19, 3) := by decide +kernel
theorem dc_C_holder_34 : decode bc_C_holder 34 = .ok (.iload_n 2, 1) := by decide +kernel
theorem dc_C_holder_35 : decode bc_C_holder 35 = .ok (.iconst (-1), 1) := by decide +kernel
theorem dc_C_holder_36 : decode bc_C_holder 36 = .ok (.iastore, 1) := by decide +kernel
theorem dc_C_holder_37 : decode bc_C_holder 37 = .ok (.aload_n 0, 1) := by decide +kernel
theorem dc_C_holder_38 : decode bc_C_holder 38 = .ok (.dup, 1) := by decide +kernel
theorem dc_C_holder_39 : decode bc_C_holder 39 = .ok (.getfield 55, 3) := by decide +kernel
theorem dc_C_holder_42 : decode bc_C_holder 42 = .ok (.iconst 1, 1) := by decide +kernel
theorem dc_C_holder_43 : decode bc_C_holder 43 = .ok (.iadd, 1) := by decide +kernel
theorem dc_C_holder_44 : decode bc_C_holder 44 = .ok (.putfield 55, 3) := by decide +kernel
theorem dc_C_holder_47 : decode bc_C_holder 47 = .ok (.iload_n 2, 1) := by decide +kernel
theorem dc_C_holder_48 : decode bc_C_holder 48 = .ok (.ireturn, 1) := by decide +kernel
theorem dc_C_weight_0 : decode bc_C_weight 0 = .ok (.aload_n 0, 1) := by decide +kernel
theorem dc_C_weight_1 : decode bc_C_weight 1 = .ok (.iload_n 1, 1) := by decide +kernel
theorem dc_C_weight_2 : decode bc_C_weight 2 = .ok (.invokevirtual 62, 3) := by decide +kernel
theorem dc_C_weight_5 : decode bc_C_weight 5 = .ok (.astore 5, 2) := by decide +kernel
theorem dc_C_weight_7 : decode bc_C_weight 7 = .ok (.aload 5, 2) := by decide +kernel
theorem dc_C_weight_9 : decode bc_C_weight 9 = .ok (.ifnull 30, 3) := by decide +kernel
theorem dc_C_weight_12 : decode bc_C_weight 12 = .ok (.aload_n 0, 1) := by decide +kernel
theorem dc_C_weight_13 : decode bc_C_weight 13 = .ok (.iload_n 2, 1) := by decide +kernel
theorem dc_C_weight_14 : decode bc_C_weight 14 = .ok (.invokevirtual 66, 3) := by decide +kernel
theorem dc_C_weight_17 : decode bc_C_weight 17 = .ok (.ifCond .eq 22, 3) := by decide +kernel
theorem dc_C_weight_20 : decode bc_C_weight 20 = .ok (.aload 5, 2) := by decide +kernel
theorem dc_C_weight_22 : decode bc_C_weight 22 = .ok (.getfield 69, 3) := by decide +kernel
theorem dc_C_weight_25 : decode bc_C_weight 25 = .ok (.ifCond .ne 14, 3) := by decide +kernel
theorem dc_C_weight_28 : decode bc_C_weight 28 = .ok (.lload_n 3, 1) := by decide +kernel
theorem dc_C_weight_29 : decode bc_C_weight 29 = .ok (.lconst 0, 1) := by decide +kernel
theorem dc_C_weight_30 : decode bc_C_weight 30 = .ok (.ldc2_w 73, 3) := by decide +kernel
theorem dc_C_weight_33 : decode bc_C_weight 33 = .ok (.invokestatic 48, 3) := by decide +kernel
theorem dc_C_weight_36 : decode bc_C_weight 36 = .ok (.ifCond .ne 5, 3) := by decide +kernel
theorem dc_C_weight_39 : decode bc_C_weight 39 = .ok (.iconst 0, 1) := by decide +kernel
theorem dc_C_weight_40 : decode bc_C_weight 40 = .ok (.ireturn, 1) := by decide +kernel
theorem dc_C_weight_41 : decode bc_C_weight 41 = .ok (.aload 5, 2) := by decide +kernel
theorem dc_C_weight_43 : decode bc_C_weight 43 = .ok (.getfield 75, 3) := by decide +kernel
theorem dc_C_weight_46 : decode bc_C_weight 46 = .ok (.iload_n 2, 1) := by decide +kernel
theorem dc_C_weight_47 : decode bc_C_weight 47 = .ok (.lload_n 3, 1) := by decide +kernel
theorem dc_C_weight_48 : decode bc_C_weight 48 = .ok (.lastore, 1) := by decide +kernel
theorem dc_C_weight_49 : decode bc_C_weight 49 = .ok (.iconst 1, 1) := by decide +kernel
theorem dc_C_weight_50 : decode bc_C_weight 50 = .ok (.ireturn, 1) := by decide +kernel
theorem dc_C_aside_0 : decode bc_C_aside 0 = .ok (.aload_n 0, 1) := by decide +kernel
theorem dc_C_aside_1 : decode bc_C_aside 1 = .ok (.iload_n 1, 1) := by decide +kernel
theorem dc_C_aside_2 : decode bc_C_aside 2 = .ok (.invokevirtual 62, 3) := by decide +kernel
theorem dc_C_aside_5 : decode bc_C_aside 5 = .ok (.astore 4, 2) := by decide +kernel
theorem dc_C_aside_7 : decode bc_C_aside 7 = .ok (.aload 4, 2) := by decide +kernel
theorem dc_C_aside_9 : decode bc_C_aside 9 = .ok (.ifnull 24, 3) := by decide +kernel
theorem dc_C_aside_12 : decode bc_C_aside 12 = .ok (.aload 4, 2) := by decide +kernel
theorem dc_C_aside_14 : decode bc_C_aside 14 = .ok (.getfield 69, 3) := by decide +kernel
theorem dc_C_aside_17 : decode bc_C_aside 17 = .ok (.ifCond .ne 16, 3) := by decide +kernel
theorem dc_C_aside_20 : decode bc_C_aside 20 = .ok (.lload_n 2, 1) := by decide +kernel
theorem dc_C_aside_21 : decode bc_C_aside 21 = .ok (.lconst 0, 1) := by decide +kernel
theorem dc_C_aside_22 : decode bc_C_aside 22 = .ok (.aload 4, 2) := by decide +kernel
theorem dc_C_aside_24 : decode bc_C_aside 24 = .ok (.getfield 79, 3) := by decide +kernel
theorem dc_C_aside_27 : decode bc_C_aside 27 = .ok (.invokestatic 48, 3) := by decide +kernel
theorem dc_C_aside_30 : decode bc_C_aside 30 = .ok (.ifCond .ne 5, 3) := by decide +kernel
theorem dc_C_aside_33 : decode bc_C_aside 33 = .ok (.iconst 0, 1) := by decide +kernel
theorem dc_C_aside_34 : decode bc_C_aside 34 = .ok (.ireturn, 1) := by decide +kernel
theorem dc_C_aside_35 : decode bc_C_aside 35 = .ok (.aload 4, 2) := by decide +kernel
theorem dc_C_aside_37 : decode bc_C_aside 37 = .ok (.lload_n 2, 1) := by decide +kernel
theorem dc_C_aside_38 : decode bc_C_aside 38 = .ok (.putfield 83, 3) := by decide +kernel
theorem dc_C_aside_41 : decode bc_C_aside 41 = .ok (.iconst 1, 1) := by decide +kernel
theorem dc_C_aside_42 : decode bc_C_aside 42 = .ok (.ireturn, 1) := by decide +kernel
theorem dc_C_follows_0 : decode bc_C_follows 0 = .ok (.aload_n 0, 1) := by decide +kernel
theorem dc_C_follows_1 : decode bc_C_follows 1 = .ok (.iload_n 1, 1) := by decide +kernel
theorem dc_C_follows_2 : decode bc_C_follows 2 = .ok (.invokevirtual 62, 3) := by decide +kernel
theorem dc_C_follows_5 : decode bc_C_follows 5 = .ok (.astore_n 3, 1) := by decide +kernel
theorem dc_C_follows_6 : decode bc_C_follows 6 = .ok (.aload_n 0, 1) := by decide +kernel
theorem dc_C_follows_7 : decode bc_C_follows 7 = .ok (.iload_n 2, 1) := by decide +kernel
theorem dc_C_follows_8 : decode bc_C_follows 8 = .ok (.invokevirtual 62, 3) := by decide +kernel
theorem dc_C_follows_11 : decode bc_C_follows 11 = .ok (.astore 4, 2) := by decide +kernel
theorem dc_C_follows_13 : decode bc_C_follows 13 = .ok (.aload_n 3, 1) := by decide +kernel
theorem dc_C_follows_14 : decode bc_C_follows 14 = .ok (.ifnull 31, 3) := by decide +kernel
theorem dc_C_follows_17 : decode bc_C_follows 17 = .ok (.aload 4, 2) := by decide +kernel
theorem dc_C_follows_19 : decode bc_C_follows 19 = .ok (.ifnull 26, 3) := by decide +kernel
theorem dc_C_follows_22 : decode bc_C_follows 22 = .ok (.aload_n 3, 1) := by decide +kernel
theorem dc_C_follows_23 : decode bc_C_follows 23 = .ok (.getfield 69, 3) := by decide +kernel
theorem dc_C_follows_26 : decode bc_C_follows 26 = .ok (.ifCond .ne 19, 3) := by decide +kernel
theorem dc_C_follows_29 : decode bc_C_follows 29 = .ok (.aload 4, 2) := by decide +kernel
theorem dc_C_follows_31 : decode bc_C_follows 31 = .ok (.getfield 69, 3) := by decide +kernel
theorem dc_C_follows_34 : decode bc_C_follows 34 = .ok (.ifCond .eq 11, 3) := by decide +kernel
theorem dc_C_follows_37 : decode bc_C_follows 37 = .ok (.aload_n 3, 1) := by decide +kernel
theorem dc_C_follows_38 : decode bc_C_follows 38 = .ok (.getfield 86, 3) := by decide +kernel
theorem dc_C_follows_41 : decode bc_C_follows 41 = .ok (.iconst (-1), 1) := by decide +kernel
theorem dc_C_follows_42 : decode bc_C_follows 42 = .ok (.if_icmp .eq 5, 3) := by decide +kernel
theorem dc_C_follows_45 : decode bc_C_follows 45 = .ok (.iconst 0, 1) := by decide +kernel
theorem dc_C_follows_46 : decode bc_C_follows 46 = .ok (.ireturn, 1) := by decide +kernel
theorem dc_C_follows_47 : decode bc_C_follows 47 = .ok (.aload_n 3, 1) := by decide +kernel
theorem dc_C_follows_48 : decode bc_C_follows 48 = .ok (.iload_n 2, 1) := by decide +kernel
theorem dc_C_follows_49 : decode bc_C_follows 49 = .ok (.putfield 86, 3) := by decide +kernel
theorem dc_C_follows_52 : decode bc_C_follows 52 = .ok (.iconst 1, 1) := by decide +kernel
theorem dc_C_follows_53 : decode bc_C_follows 53 = .ok (.ireturn, 1) := by decide +kernel
theorem dc_C_part_0 : decode bc_C_part 0 = .ok (.aload_n 0, 1) := by decide +kernel
theorem dc_C_part_1 : decode bc_C_part 1 = .ok (.iload_n 1, 1) := by decide +kernel
theorem dc_C_part_2 : decode bc_C_part 2 = .ok (.invokevirtual 62, 3) := by decide +kernel
theorem dc_C_part_5 : decode bc_C_part 5 = .ok (.astore_n 2, 1) := by decide +kernel
theorem dc_C_part_6 : decode bc_C_part 6 = .ok (.aload_n 2, 1) := by decide +kernel
theorem dc_C_part_7 : decode bc_C_part 7 = .ok (.ifnull 17, 3) := by decide +kernel
theorem dc_C_part_10 : decode bc_C_part 10 = .ok (.aload_n 2, 1) := by decide +kernel
theorem dc_C_part_11 : decode bc_C_part 11 = .ok (.getfield 69, 3) := by decide +kernel
theorem dc_C_part_14 : decode bc_C_part 14 = .ok (.ifCond .ne 10, 3) := by decide +kernel
theorem dc_C_part_17 : decode bc_C_part 17 = .ok (.aload_n 2, 1) := by decide +kernel
theorem dc_C_part_18 : decode bc_C_part 18 = .ok (.invokevirtual 89, 3) := by decide +kernel
theorem dc_C_part_21 : decode bc_C_part 21 = .ok (.ifCond .ne 5, 3) := by decide +kernel
theorem dc_C_part_24 : decode bc_C_part 24 = .ok (.iconst (-1), 1) := by decide +kernel
theorem dc_C_part_25 : decode bc_C_part 25 = .ok (.ireturn, 1) := by decide +kernel
theorem dc_C_part_26 : decode bc_C_part 26 = .ok (.aload_n 0, 1) := by decide +kernel
theorem dc_C_part_27 : decode bc_C_part 27 = .ok (.aload_n 2, 1) := by decide +kernel
theorem dc_C_part_28 : decode bc_C_part 28 = .ok (.getfield 86, 3) := by decide +kernel
theorem dc_C_part_31 : decode bc_C_part 31 = .ok (.invokevirtual 62, 3) := by decide +kernel
theorem dc_C_part_34 : decode bc_C_part 34 = .ok (.astore_n 3, 1) := by decide +kernel
theorem dc_C_part_35 : decode bc_C_part 35 = .ok (.aload_n 3, 1) := by decide +kernel
theorem dc_C_part_36 : decode bc_C_part 36 = .ok (.ifnull 9, 3) := by decide +kernel
theorem dc_C_part_39 : decode bc_C_part 39 = .ok (.aload_n 0, 1) := by decide +kernel
theorem dc_C_part_40 : decode bc_C_part 40 = .ok (.aload_n 3, 1) := by decide +kernel
theorem dc_C_part_41 : decode bc_C_part 41 = .ok (.aload_n 2, 1) := by decide +kernel
theorem dc_C_part_42 : decode bc_C_part 42 = .ok (.invokevirtual 93, 3) := by decide +kernel
theorem dc_C_part_45 : decode bc_C_part 45 = .ok (.aload_n 2, 1) := by decide +kernel
theorem dc_C_part_46 : decode bc_C_part 46 = .ok (.iconst 1, 1) := by decide +kernel
theorem dc_C_part_47 : decode bc_C_part 47 = .ok (.putfield 69, 3) := by decide +kernel
theorem dc_C_part_50 : decode bc_C_part 50 = .ok (.aload_n 2, 1) := by decide +kernel
theorem dc_C_part_51 : decode bc_C_part 51 = .ok (.invokevirtual 97, 3) := by decide +kernel
theorem dc_C_part_54 : decode bc_C_part 54 = .ok (.ireturn, 1) := by decide +kernel
theorem dc_C_given_0 : decode bc_C_given 0 = .ok (.aload_n 0, 1) := by decide +kernel
theorem dc_C_given_1 : decode bc_C_given 1 = .ok (.iload_n 1, 1) := by decide +kernel
theorem dc_C_given_2 : decode bc_C_given 2 = .ok (.invokevirtual 62, 3) := by decide +kernel
theorem dc_C_given_5 : decode bc_C_given 5 = .ok (.astore_n 3, 1) := by decide +kernel
theorem dc_C_given_6 : decode bc_C_given 6 = .ok (.aload_n 3, 1) := by decide +kernel
theorem dc_C_given_7 : decode bc_C_given 7 = .ok (.ifnull 11, 3) := by decide +kernel
theorem dc_C_given_10 : decode bc_C_given 10 = .ok (.aload_n 0, 1) := by decide +kernel
theorem dc_C_given_11 : decode bc_C_given 11 = .ok (.iload_n 2, 1) := by decide +kernel
theorem dc_C_given_12 : decode bc_C_given 12 = .ok (.invokevirtual 66, 3) := by decide +kernel
theorem dc_C_given_15 : decode bc_C_given 15 = .ok (.ifCond .ne 7, 3) := by decide +kernel
theorem dc_C_given_18 : decode bc_C_given 18 = .ok (.ldc2_w 101, 3) := by decide +kernel
theorem dc_C_given_21 : decode bc_C_given 21 = .ok (.lreturn, 1) := by decide +kernel
theorem dc_C_given_22 : decode bc_C_given 22 = .ok (.aload_n 3, 1) := by decide +kernel
theorem dc_C_given_23 : decode bc_C_given 23 = .ok (.getfield 103, 3) := by decide +kernel
theorem dc_C_given_26 : decode bc_C_given 26 = .ok (.iload_n 2, 1) := by decide +kernel
theorem dc_C_given_27 : decode bc_C_given 27 = .ok (.laload, 1) := by decide +kernel
theorem dc_C_given_28 : decode bc_C_given 28 = .ok (.lreturn, 1) := by decide +kernel
theorem dc_C_land_0 : decode bc_C_land 0 = .ok (.aload_n 0, 1) := by decide +kernel
theorem dc_C_land_1 : decode bc_C_land 1 = .ok (.iload_n 1, 1) := by decide +kernel
theorem dc_C_land_2 : decode bc_C_land 2 = .ok (.invokevirtual 62, 3) := by decide +kernel
theorem dc_C_land_5 : decode bc_C_land 5 = .ok (.astore 7, 2) := by decide +kernel
theorem dc_C_land_7 : decode bc_C_land 7 = .ok (.aload 7, 2) := by decide +kernel
theorem dc_C_land_9 : decode bc_C_land 9 = .ok (.ifnull 19, 3) := by decide +kernel
theorem dc_C_land_12 : decode bc_C_land 12 = .ok (.aload_n 0, 1) := by decide +kernel
theorem dc_C_land_13 : decode bc_C_land 13 = .ok (.iload_n 2, 1) := by decide +kernel
theorem dc_C_land_14 : decode bc_C_land 14 = .ok (.invokevirtual 66, 3) := by decide +kernel
theorem dc_C_land_17 : decode bc_C_land 17 = .ok (.ifCond .eq 11, 3) := by decide +kernel
theorem dc_C_land_20 : decode bc_C_land 20 = .ok (.aload 7, 2) := by decide +kernel
theorem dc_C_land_22 : decode bc_C_land 22 = .ok (.getfield 69, 3) := by decide +kernel
theorem dc_C_land_25 : decode bc_C_land 25 = .ok (.ifCond .ne 5, 3) := by decide +kernel
theorem dc_C_land_28 : decode bc_C_land 28 = .ok (.iconst 0, 1) := by decide +kernel
theorem dc_C_land_29 : decode bc_C_land 29 = .ok (.ireturn, 1) := by decide +kernel
theorem dc_C_land_30 : decode bc_C_land 30 = .ok (.lload_n 3, 1) := by decide +kernel
theorem dc_C_land_31 : decode bc_C_land 31 = .ok (.lconst 1, 1) := by decide +kernel
theorem dc_C_land_32 : decode bc_C_land 32 = .ok (.ldc2_w 46, 3) := by decide +kernel
theorem dc_C_land_35 : decode bc_C_land 35 = .ok (.invokestatic 48, 3) := by decide +kernel
theorem dc_C_land_38 : decode bc_C_land 38 = .ok (.ifCond .eq 29, 3) := by decide +kernel
theorem dc_C_land_41 : decode bc_C_land 41 = .ok (.iload 5, 2) := by decide +kernel
theorem dc_C_land_43 : decode bc_C_land 43 = .ok (.i2l, 1) := by decide +kernel
theorem dc_C_land_44 : decode bc_C_land 44 = .ok (.lconst 0, 1) := by decide +kernel
theorem dc_C_land_45 : decode bc_C_land 45 = .ok (.ldc2_w 106, 3) := by decide +kernel
theorem dc_C_land_48 : decode bc_C_land 48 = .ok (.invokestatic 48, 3) := by decide +kernel
theorem dc_C_land_51 : decode bc_C_land 51 = .ok (.ifCond .eq 16, 3) := by decide +kernel
theorem dc_C_land_54 : decode bc_C_land 54 = .ok (.iload 6, 2) := by decide +kernel
theorem dc_C_land_56 : decode bc_C_land 56 = .ok (.i2l, 1) := by decide +kernel
theorem dc_C_land_57 : decode bc_C_land 57 = .ok (.lconst 0, 1) := by decide +kernel
theorem dc_C_land_58 : decode bc_C_land 58 = .ok (.ldc2_w 106, 3) := by decide +kernel
theorem dc_C_land_61 : decode bc_C_land 61 = .ok (.invokestatic 48, 3) := by decide +kernel
theorem dc_C_land_64 : decode bc_C_land 64 = .ok (.ifCond .ne 5, 3) := by decide +kernel
theorem dc_C_land_67 : decode bc_C_land 67 = .ok (.iconst 0, 1) := by decide +kernel
theorem dc_C_land_68 : decode bc_C_land 68 = .ok (.ireturn, 1) := by decide +kernel
theorem dc_C_land_69 : decode bc_C_land 69 = .ok (.iload 6, 2) := by decide +kernel
theorem dc_C_land_71 : decode bc_C_land 71 = .ok (.iload 5, 2) := by decide +kernel
theorem dc_C_land_73 : decode bc_C_land 73 = .ok (.if_icmp .ge 5, 3) := by decide +kernel
theorem dc_C_land_76 : decode bc_C_land 76 = .ok (.iconst 0, 1) := by decide +kernel
theorem dc_C_land_77 : decode bc_C_land 77 = .ok (.ireturn, 1) := by decide +kernel
theorem dc_C_land_78 : decode bc_C_land 78 = .ok (.aload_n 0, 1) := by decide +kernel
theorem dc_C_land_79 : decode bc_C_land 79 = .ok (.getfield 25, 3) := by decide +kernel
theorem dc_C_land_82 : decode bc_C_land 82 = .ok (.iload_n 1, 1) := by decide +kernel
theorem dc_C_land_83 : decode bc_C_land 83 = .ok (.iload_n 2, 1) := by decide +kernel
theorem dc_C_land_84 : decode bc_C_land 84 = .ok (.lload_n 3, 1) := by decide +kernel
theorem dc_C_land_85 : decode bc_C_land 85 = .ok (.iload 6, 2) := by decide +kernel
theorem dc_C_land_87 : decode bc_C_land 87 = .ok (.invokevirtual 108, 3) := by decide +kernel
theorem dc_C_land_90 : decode bc_C_land 90 = .ok (.ireturn, 1) := by decide +kernel
theorem dc_C_left_0 : decode bc_C_left 0 = .ok (.aload_n 0, 1) := by decide +kernel
theorem dc_C_left_1 : decode bc_C_left 1 = .ok (.iload_n 1, 1) := by decide +kernel
theorem dc_C_left_2 : decode bc_C_left 2 = .ok (.invokevirtual 62, 3) := by decide +kernel
theorem dc_C_left_5 : decode bc_C_left 5 = .ok (.astore 4, 2) := by decide +kernel
theorem dc_C_left_7 : decode bc_C_left 7 = .ok (.aload 4, 2) := by decide +kernel
theorem dc_C_left_9 : decode bc_C_left 9 = .ok (.ifnull 11, 3) := by decide +kernel
theorem dc_C_left_12 : decode bc_C_left 12 = .ok (.aload_n 0, 1) := by decide +kernel
theorem dc_C_left_13 : decode bc_C_left 13 = .ok (.iload_n 2, 1) := by decide +kernel
theorem dc_C_left_14 : decode bc_C_left 14 = .ok (.invokevirtual 66, 3) := by decide +kernel
theorem dc_C_left_17 : decode bc_C_left 17 = .ok (.ifCond .ne 7, 3) := by decide +kernel
theorem dc_C_left_20 : decode bc_C_left 20 = .ok (.ldc2_w 101, 3) := by decide +kernel
theorem dc_C_left_23 : decode bc_C_left 23 = .ok (.lreturn, 1) := by decide +kernel
theorem dc_C_left_24 : decode bc_C_left 24 = .ok (.aload_n 0, 1) := by decide +kernel
theorem dc_C_left_25 : decode bc_C_left 25 = .ok (.aload 4, 2) := by decide +kernel
theorem dc_C_left_27 : decode bc_C_left 27 = .ok (.iload_n 2, 1) := by decide +kernel
theorem dc_C_left_28 : decode bc_C_left 28 = .ok (.iload_n 3, 1) := by decide +kernel
theorem dc_C_left_29 : decode bc_C_left 29 = .ok (.invokevirtual 112, 3) := by decide +kernel
theorem dc_C_left_32 : decode bc_C_left 32 = .ok (.lreturn, 1) := by decide +kernel
theorem dc_C_transfer_0 : decode bc_C_transfer 0 = .ok (.aload_n 0, 1) := by decide +kernel
theorem dc_C_transfer_1 : decode bc_C_transfer 1 = .ok (.iload_n 1, 1) := by decide +kernel
theorem dc_C_transfer_2 : decode bc_C_transfer 2 = .ok (.invokevirtual 62, 3) := by decide +kernel
theorem dc_C_transfer_5 : decode bc_C_transfer 5 = .ok (.astore 6, 2) := by decide +kernel
theorem dc_C_transfer_7 : decode bc_C_transfer 7 = .ok (.aload 6, 2) := by decide +kernel
theorem dc_C_transfer_9 : decode bc_C_transfer 9 = .ok (.ifnull 24, 3) := by decide +kernel
theorem dc_C_transfer_12 : decode bc_C_transfer 12 = .ok (.aload_n 0, 1) := by decide +kernel
theorem dc_C_transfer_13 : decode bc_C_transfer 13 = .ok (.iload_n 2, 1) := by decide +kernel
theorem dc_C_transfer_14 : decode bc_C_transfer 14 = .ok (.invokevirtual 66, 3) := by decide +kernel
theorem dc_C_transfer_17 : decode bc_C_transfer 17 = .ok (.ifCond .eq 16, 3) := by decide +kernel
theorem dc_C_transfer_20 : decode bc_C_transfer 20 = .ok (.aload_n 0, 1) := by decide +kernel
theorem dc_C_transfer_21 : decode bc_C_transfer 21 = .ok (.iload_n 3, 1) := by decide +kernel
theorem dc_C_transfer_22 : decode bc_C_transfer 22 = .ok (.invokevirtual 66, 3) := by decide +kernel
theorem dc_C_transfer_25 : decode bc_C_transfer 25 = .ok (.ifCond .eq 8, 3) := by decide +kernel
theorem dc_C_transfer_28 : decode bc_C_transfer 28 = .ok (.iload_n 2, 1) := by decide +kernel
theorem dc_C_transfer_29 : decode bc_C_transfer 29 = .ok (.iload_n 3, 1) := by decide +kernel
theorem dc_C_transfer_30 : decode bc_C_transfer 30 = .ok (.if_icmp .ne 5, 3) := by decide +kernel
theorem dc_C_transfer_33 : decode bc_C_transfer 33 = .ok (.iconst (-1), 1) := by decide +kernel
theorem dc_C_transfer_34 : decode bc_C_transfer 34 = .ok (.ireturn, 1) := by decide +kernel
theorem dc_C_transfer_35 : decode bc_C_transfer 35 = .ok (.aload 6, 2) := by decide +kernel
theorem dc_C_transfer_37 : decode bc_C_transfer 37 = .ok (.getfield 69, 3) := by decide +kernel
theorem dc_C_transfer_40 : decode bc_C_transfer 40 = .ok (.ifCond .eq 15, 3) := by decide +kernel
theorem dc_C_transfer_43 : decode bc_C_transfer 43 = .ok (.lload 4, 2) := by decide +kernel
theorem dc_C_transfer_45 : decode bc_C_transfer 45 = .ok (.lconst 1, 1) := by decide +kernel
theorem dc_C_transfer_46 : decode bc_C_transfer 46 = .ok (.ldc2_w 46, 3) := by decide +kernel
theorem dc_C_transfer_49 : decode bc_C_transfer 49 = .ok (.invokestatic 48, 3) := by decide +kernel
theorem dc_C_transfer_52 : decode bc_C_transfer 52 = .ok (.ifCond .ne 5, 3) := by decide +kernel
theorem dc_C_transfer_55 : decode bc_C_transfer 55 = .ok (.iconst (-1), 1) := by decide +kernel
theorem dc_C_transfer_56 : decode bc_C_transfer 56 = .ok (.ireturn, 1) := by decide +kernel
theorem dc_C_transfer_57 : decode bc_C_transfer 57 = .ok (.aload_n 0, 1) := by decide +kernel
theorem dc_C_transfer_58 : decode bc_C_transfer 58 = .ok (.aload 6, 2) := by decide +kernel
theorem dc_C_transfer_60 : decode bc_C_transfer 60 = .ok (.iload_n 2, 1) := by decide +kernel
theorem dc_C_transfer_61 : decode bc_C_transfer 61 = .ok (.invokevirtual 116, 3) := by decide +kernel
theorem dc_C_transfer_64 : decode bc_C_transfer 64 = .ok (.lload 4, 2) := by decide +kernel
theorem dc_C_transfer_66 : decode bc_C_transfer 66 = .ok (.lcmp, 1) := by decide +kernel
theorem dc_C_transfer_67 : decode bc_C_transfer 67 = .ok (.ifCond .ge 5, 3) := by decide +kernel
theorem dc_C_transfer_70 : decode bc_C_transfer 70 = .ok (.iconst 1, 1) := by decide +kernel
theorem dc_C_transfer_71 : decode bc_C_transfer 71 = .ok (.ireturn, 1) := by decide +kernel
theorem dc_C_transfer_72 : decode bc_C_transfer 72 = .ok (.aload 6, 2) := by decide +kernel
theorem dc_C_transfer_74 : decode bc_C_transfer 74 = .ok (.getfield 103, 3) := by decide +kernel
theorem dc_C_transfer_77 : decode bc_C_transfer 77 = .ok (.iload_n 2, 1) := by decide +kernel
theorem dc_C_transfer_78 : decode bc_C_transfer 78 = .ok (.dup2, 1) := by decide +kernel
theorem dc_C_transfer_79 : decode bc_C_transfer 79 = .ok (.laload, 1) := by decide +kernel
theorem dc_C_transfer_80 : decode bc_C_transfer 80 = .ok (.lload 4, 2) := by decide +kernel
theorem dc_C_transfer_82 : decode bc_C_transfer 82 = .ok (.lsub, 1) := by decide +kernel
theorem dc_C_transfer_83 : decode bc_C_transfer 83 = .ok (.lastore, 1) := by decide +kernel
theorem dc_C_transfer_84 : decode bc_C_transfer 84 = .ok (.aload 6, 2) := by decide +kernel
theorem dc_C_transfer_86 : decode bc_C_transfer 86 = .ok (.getfield 103, 3) := by decide +kernel
theorem dc_C_transfer_89 : decode bc_C_transfer 89 = .ok (.iload_n 3, 1) := by decide +kernel
theorem dc_C_transfer_90 : decode bc_C_transfer 90 = .ok (.dup2, 1) := by decide +kernel
theorem dc_C_transfer_91 : decode bc_C_transfer 91 = .ok (.laload, 1) := by decide +kernel
theorem dc_C_transfer_92 : decode bc_C_transfer 92 = .ok (.lload 4, 2) := by decide +kernel
theorem dc_C_transfer_94 : decode bc_C_transfer 94 = .ok (.ladd, 1) := by decide +kernel
theorem dc_C_transfer_95 : decode bc_C_transfer 95 = .ok (.lastore, 1) := by decide +kernel
theorem dc_C_transfer_96 : decode bc_C_transfer 96 = .ok (.iconst 0, 1) := by decide +kernel
theorem dc_C_transfer_97 : decode bc_C_transfer 97 = .ok (.ireturn, 1) := by decide +kernel
theorem dc_C_swap_0 : decode bc_C_swap 0 = .ok (.aload_n 0, 1) := by decide +kernel
theorem dc_C_swap_1 : decode bc_C_swap 1 = .ok (.iload_n 1, 1) := by decide +kernel
theorem dc_C_swap_2 : decode bc_C_swap 2 = .ok (.invokevirtual 62, 3) := by decide +kernel
theorem dc_C_swap_5 : decode bc_C_swap 5 = .ok (.astore 8, 2) := by decide +kernel
theorem dc_C_swap_7 : decode bc_C_swap 7 = .ok (.aload_n 0, 1) := by decide +kernel
theorem dc_C_swap_8 : decode bc_C_swap 8 = .ok (.iload_n 2, 1) := by decide +kernel
theorem dc_C_swap_9 : decode bc_C_swap 9 = .ok (.invokevirtual 62, 3) := by decide +kernel
theorem dc_C_swap_12 : decode bc_C_swap 12 = .ok (.astore 9, 2) := by decide +kernel
theorem dc_C_swap_14 : decode bc_C_swap 14 = .ok (.aload 8, 2) := by decide +kernel
theorem dc_C_swap_16 : decode bc_C_swap 16 = .ok (.ifnull 22, 3) := by decide +kernel
theorem dc_C_swap_19 : decode bc_C_swap 19 = .ok (.aload 9, 2) := by decide +kernel
theorem dc_C_swap_21 : decode bc_C_swap 21 = .ok (.ifnull 17, 3) := by decide +kernel
theorem dc_C_swap_24 : decode bc_C_swap 24 = .ok (.aload_n 0, 1) := by decide +kernel
theorem dc_C_swap_25 : decode bc_C_swap 25 = .ok (.iload 5, 2) := by decide +kernel
theorem dc_C_swap_27 : decode bc_C_swap 27 = .ok (.invokevirtual 66, 3) := by decide +kernel
theorem dc_C_swap_30 : decode bc_C_swap 30 = .ok (.ifCond .eq 8, 3) := by decide +kernel
theorem dc_C_swap_33 : decode bc_C_swap 33 = .ok (.iload_n 1, 1) := by decide +kernel
theorem dc_C_swap_34 : decode bc_C_swap 34 = .ok (.iload_n 2, 1) := by decide +kernel
theorem dc_C_swap_35 : decode bc_C_swap 35 = .ok (.if_icmp .ne 5, 3) := by decide +kernel
theorem dc_C_swap_38 : decode bc_C_swap 38 = .ok (.iconst (-1), 1) := by decide +kernel
theorem dc_C_swap_39 : decode bc_C_swap 39 = .ok (.ireturn, 1) := by decide +kernel
theorem dc_C_swap_40 : decode bc_C_swap 40 = .ok (.aload 8, 2) := by decide +kernel
theorem dc_C_swap_42 : decode bc_C_swap 42 = .ok (.getfield 69, 3) := by decide +kernel
theorem dc_C_swap_45 : decode bc_C_swap 45 = .ok (.ifCond .eq 32, 3) := by decide +kernel
theorem dc_C_swap_48 : decode bc_C_swap 48 = .ok (.aload 9, 2) := by decide +kernel
theorem dc_C_swap_50 : decode bc_C_swap 50 = .ok (.getfield 69, 3) := by decide +kernel
theorem dc_C_swap_53 : decode bc_C_swap 53 = .ok (.ifCond .eq 24, 3) := by decide +kernel
theorem dc_C_swap_56 : decode bc_C_swap 56 = .ok (.iload_n 3, 1) := by decide +kernel
theorem dc_C_swap_57 : decode bc_C_swap 57 = .ok (.iload 4, 2) := by decide +kernel
theorem dc_C_swap_59 : decode bc_C_swap 59 = .ok (.invokestatic 120, 3) := by decide +kernel
theorem dc_C_swap_62 : decode bc_C_swap 62 = .ok (.ifCond .eq 15, 3) := by decide +kernel
theorem dc_C_swap_65 : decode bc_C_swap 65 = .ok (.lload 6, 2) := by decide +kernel
theorem dc_C_swap_67 : decode bc_C_swap 67 = .ok (.lconst 1, 1) := by decide +kernel
theorem dc_C_swap_68 : decode bc_C_swap 68 = .ok (.ldc2_w 46, 3) := by decide +kernel
theorem dc_C_swap_71 : decode bc_C_swap 71 = .ok (.invokestatic 48, 3) := by decide +kernel
theorem dc_C_swap_74 : decode bc_C_swap 74 = .ok (.ifCond .ne 5, 3) := by decide +kernel
theorem dc_C_swap_77 : decode bc_C_swap 77 = .ok (.iconst (-1), 1) := by decide +kernel
theorem dc_C_swap_78 : decode bc_C_swap 78 = .ok (.ireturn, 1) := by decide +kernel
theorem dc_C_swap_79 : decode bc_C_swap 79 = .ok (.aload_n 0, 1) := by decide +kernel
theorem dc_C_swap_80 : decode bc_C_swap 80 = .ok (.aload 8, 2) := by decide +kernel
theorem dc_C_swap_82 : decode bc_C_swap 82 = .ok (.iload 5, 2) := by decide +kernel
theorem dc_C_swap_84 : decode bc_C_swap 84 = .ok (.invokevirtual 116, 3) := by decide +kernel
theorem dc_C_swap_87 : decode bc_C_swap 87 = .ok (.lload 6, 2) := by decide +kernel
theorem dc_C_swap_89 : decode bc_C_swap 89 = .ok (.lcmp, 1) := by decide +kernel
theorem dc_C_swap_90 : decode bc_C_swap 90 = .ok (.ifCond .ge 5, 3) := by decide +kernel
theorem dc_C_swap_93 : decode bc_C_swap 93 = .ok (.iconst 1, 1) := by decide +kernel
theorem dc_C_swap_94 : decode bc_C_swap 94 = .ok (.ireturn, 1) := by decide +kernel
theorem dc_C_swap_95 : decode bc_C_swap 95 = .ok (.lload 6, 2) := by decide +kernel
theorem dc_C_swap_97 : decode bc_C_swap 97 = .ok (.iload_n 3, 1) := by decide +kernel
theorem dc_C_swap_98 : decode bc_C_swap 98 = .ok (.i2l, 1) := by decide +kernel
theorem dc_C_swap_99 : decode bc_C_swap 99 = .ok (.lmul, 1) := by decide +kernel
theorem dc_C_swap_100 : decode bc_C_swap 100 = .ok (.lstore 10, 2) := by decide +kernel
theorem dc_C_swap_102 : decode bc_C_swap 102 = .ok (.lload 10, 2) := by decide +kernel
theorem dc_C_swap_104 : decode bc_C_swap 104 = .ok (.iload 4, 2) := by decide +kernel
theorem dc_C_swap_106 : decode bc_C_swap 106 = .ok (.i2l, 1) := by decide +kernel
theorem dc_C_swap_107 : decode bc_C_swap 107 = .ok (.lrem, 1) := by decide +kernel
theorem dc_C_swap_108 : decode bc_C_swap 108 = .ok (.lconst 0, 1) := by decide +kernel
theorem dc_C_swap_109 : decode bc_C_swap 109 = .ok (.lcmp, 1) := by decide +kernel
theorem dc_C_swap_110 : decode bc_C_swap 110 = .ok (.ifCond .eq 5, 3) := by decide +kernel
theorem dc_C_swap_113 : decode bc_C_swap 113 = .ok (.iconst 2, 1) := by decide +kernel
theorem dc_C_swap_114 : decode bc_C_swap 114 = .ok (.ireturn, 1) := by decide +kernel
theorem dc_C_swap_115 : decode bc_C_swap 115 = .ok (.lload 10, 2) := by decide +kernel
theorem dc_C_swap_117 : decode bc_C_swap 117 = .ok (.iload 4, 2) := by decide +kernel
theorem dc_C_swap_119 : decode bc_C_swap 119 = .ok (.i2l, 1) := by decide +kernel
theorem dc_C_swap_120 : decode bc_C_swap 120 = .ok (.ldiv, 1) := by decide +kernel
theorem dc_C_swap_121 : decode bc_C_swap 121 = .ok (.lstore 12, 2) := by decide +kernel
theorem dc_C_swap_123 : decode bc_C_swap 123 = .ok (.aload 9, 2) := by decide +kernel
theorem dc_C_swap_125 : decode bc_C_swap 125 = .ok (.invokevirtual 124, 3) := by decide +kernel
theorem dc_C_swap_128 : decode bc_C_swap 128 = .ok (.lload 12, 2) := by decide +kernel
theorem dc_C_swap_130 : decode bc_C_swap 130 = .ok (.ladd, 1) := by decide +kernel
theorem dc_C_swap_131 : decode bc_C_swap 131 = .ok (.ldc2_w 128, 3) := by decide +kernel
theorem dc_C_swap_134 : decode bc_C_swap 134 = .ok (.lcmp, 1) := by decide +kernel
theorem dc_C_swap_135 : decode bc_C_swap 135 = .ok (.ifCond .le 5, 3) := by decide +kernel
theorem dc_C_swap_138 : decode bc_C_swap 138 = .ok (.iconst 2, 1) := by decide +kernel
theorem dc_C_swap_139 : decode bc_C_swap 139 = .ok (.ireturn, 1) := by decide +kernel
theorem dc_C_swap_140 : decode bc_C_swap 140 = .ok (.aload 8, 2) := by decide +kernel
theorem dc_C_swap_142 : decode bc_C_swap 142 = .ok (.iload 5, 2) := by decide +kernel
theorem dc_C_swap_144 : decode bc_C_swap 144 = .ok (.lload 6, 2) := by decide +kernel
theorem dc_C_swap_146 : decode bc_C_swap 146 = .ok (.lneg, 1) := by decide +kernel
theorem dc_C_swap_147 : decode bc_C_swap 147 = .ok (.invokevirtual 130, 3) := by decide +kernel
theorem dc_C_swap_150 : decode bc_C_swap 150 = .ok (.aload 9, 2) := by decide +kernel
theorem dc_C_swap_152 : decode bc_C_swap 152 = .ok (.iload 5, 2) := by decide +kernel
theorem dc_C_swap_154 : decode bc_C_swap 154 = .ok (.lload 12, 2) := by decide +kernel
theorem dc_C_swap_156 : decode bc_C_swap 156 = .ok (.invokevirtual 130, 3) := by decide +kernel
theorem dc_C_swap_159 : decode bc_C_swap 159 = .ok (.iconst 0, 1) := by decide +kernel
theorem dc_C_swap_160 : decode bc_C_swap 160 = .ok (.ireturn, 1) := by decide +kernel
theorem dc_C_over_0 : decode bc_C_over 0 = .ok (.aload_n 0, 1) := by decide +kernel
theorem dc_C_over_1 : decode bc_C_over 1 = .ok (.iload_n 1, 1) := by decide +kernel
theorem dc_C_over_2 : decode bc_C_over 2 = .ok (.invokevirtual 62, 3) := by decide +kernel
theorem dc_C_over_5 : decode bc_C_over 5 = .ok (.astore_n 3, 1) := by decide +kernel
theorem dc_C_over_6 : decode bc_C_over 6 = .ok (.aload_n 3, 1) := by decide +kernel
theorem dc_C_over_7 : decode bc_C_over 7 = .ok (.ifnull 11, 3) := by decide +kernel
theorem dc_C_over_10 : decode bc_C_over 10 = .ok (.aload_n 0, 1) := by decide +kernel
theorem dc_C_over_11 : decode bc_C_over 11 = .ok (.iload_n 2, 1) := by decide +kernel
theorem dc_C_over_12 : decode bc_C_over 12 = .ok (.invokevirtual 66, 3) := by decide +kernel
theorem dc_C_over_15 : decode bc_C_over 15 = .ok (.ifCond .ne 7, 3) := by decide +kernel
theorem dc_C_over_18 : decode bc_C_over 18 = .ok (.ldc2_w 101, 3) := by decide +kernel
theorem dc_C_over_21 : decode bc_C_over 21 = .ok (.lreturn, 1) := by decide +kernel
theorem dc_C_over_22 : decode bc_C_over 22 = .ok (.aload_n 0, 1) := by decide +kernel
theorem dc_C_over_23 : decode bc_C_over 23 = .ok (.aload_n 3, 1) := by decide +kernel
theorem dc_C_over_24 : decode bc_C_over 24 = .ok (.iload_n 2, 1) := by decide +kernel
theorem dc_C_over_25 : decode bc_C_over 25 = .ok (.invokevirtual 133, 3) := by decide +kernel
theorem dc_C_over_28 : decode bc_C_over 28 = .ok (.lreturn, 1) := by decide +kernel
theorem dc_C_carried_0 : decode bc_C_carried 0 = .ok (.aload_n 0, 1) := by decide +kernel
theorem dc_C_carried_1 : decode bc_C_carried 1 = .ok (.iload_n 1, 1) := by decide +kernel
theorem dc_C_carried_2 : decode bc_C_carried 2 = .ok (.invokevirtual 62, 3) := by decide +kernel
theorem dc_C_carried_5 : decode bc_C_carried 5 = .ok (.astore_n 3, 1) := by decide +kernel
theorem dc_C_carried_6 : decode bc_C_carried 6 = .ok (.aload_n 3, 1) := by decide +kernel
theorem dc_C_carried_7 : decode bc_C_carried 7 = .ok (.ifnull 11, 3) := by decide +kernel
theorem dc_C_carried_10 : decode bc_C_carried 10 = .ok (.aload_n 0, 1) := by decide +kernel
theorem dc_C_carried_11 : decode bc_C_carried 11 = .ok (.iload_n 2, 1) := by decide +kernel
theorem dc_C_carried_12 : decode bc_C_carried 12 = .ok (.invokevirtual 66, 3) := by decide +kernel
theorem dc_C_carried_15 : decode bc_C_carried 15 = .ok (.ifCond .ne 7, 3) := by decide +kernel
theorem dc_C_carried_18 : decode bc_C_carried 18 = .ok (.ldc2_w 101, 3) := by decide +kernel
theorem dc_C_carried_21 : decode bc_C_carried 21 = .ok (.lreturn, 1) := by decide +kernel
theorem dc_C_carried_22 : decode bc_C_carried 22 = .ok (.aload_n 0, 1) := by decide +kernel
theorem dc_C_carried_23 : decode bc_C_carried 23 = .ok (.aload_n 3, 1) := by decide +kernel
theorem dc_C_carried_24 : decode bc_C_carried 24 = .ok (.iload_n 2, 1) := by decide +kernel
theorem dc_C_carried_25 : decode bc_C_carried 25 = .ok (.invokevirtual 136, 3) := by decide +kernel
theorem dc_C_carried_28 : decode bc_C_carried 28 = .ok (.lreturn, 1) := by decide +kernel
theorem dc_C_penalty_0 : decode bc_C_penalty 0 = .ok (.iload_n 1, 1) := by decide +kernel
theorem dc_C_penalty_1 : decode bc_C_penalty 1 = .ok (.iload_n 2, 1) := by decide +kernel
theorem dc_C_penalty_2 : decode bc_C_penalty 2 = .ok (.invokestatic 120, 3) := by decide +kernel
theorem dc_C_penalty_5 : decode bc_C_penalty 5 = .ok (.ifCond .ne 5, 3) := by decide +kernel
theorem dc_C_penalty_8 : decode bc_C_penalty 8 = .ok (.iconst 0, 1) := by decide +kernel
theorem dc_C_penalty_9 : decode bc_C_penalty 9 = .ok (.ireturn, 1) := by decide +kernel
theorem dc_C_penalty_10 : decode bc_C_penalty 10 = .ok (.aload_n 0, 1) := by decide +kernel
theorem dc_C_penalty_11 : decode bc_C_penalty 11 = .ok (.iload_n 1, 1) := by decide +kernel
theorem dc_C_penalty_12 : decode bc_C_penalty 12 = .ok (.putfield 36, 3) := by decide +kernel
theorem dc_C_penalty_15 : decode bc_C_penalty 15 = .ok (.aload_n 0, 1) := by decide +kernel
theorem dc_C_penalty_16 : decode bc_C_penalty 16 = .ok (.iload_n 2, 1) := by decide +kernel
theorem dc_C_penalty_17 : decode bc_C_penalty 17 = .ok (.putfield 40, 3) := by decide +kernel
theorem dc_C_penalty_20 : decode bc_C_penalty 20 = .ok (.iconst 1, 1) := by decide +kernel
theorem dc_C_penalty_21 : decode bc_C_penalty 21 = .ok (.ireturn, 1) := by decide +kernel
theorem dc_C_into_0 : decode bc_C_into 0 = .ok (.aload_n 0, 1) := by decide +kernel
theorem dc_C_into_1 : decode bc_C_into 1 = .ok (.iload_n 1, 1) := by decide +kernel
theorem dc_C_into_2 : decode bc_C_into 2 = .ok (.invokevirtual 66, 3) := by decide +kernel
theorem dc_C_into_5 : decode bc_C_into 5 = .ok (.ifCond .eq 15, 3) := by decide +kernel
theorem dc_C_into_8 : decode bc_C_into 8 = .ok (.iload_n 2, 1) := by decide +kernel
theorem dc_C_into_9 : decode bc_C_into 9 = .ok (.iconst (-1), 1) := by decide +kernel
theorem dc_C_into_10 : decode bc_C_into 10 = .ok (.if_icmp .eq 12, 3) := by decide +kernel
theorem dc_C_into_13 : decode bc_C_into 13 = .ok (.iload_n 2, 1) := by decide +kernel
theorem dc_C_into_14 : decode bc_C_into 14 = .ok (.invokestatic 139, 3) := by decide +kernel
theorem dc_C_into_17 : decode bc_C_into 17 = .ok (.ifCond .ne 5, 3) := by decide +kernel
theorem dc_C_into_20 : decode bc_C_into 20 = .ok (.iconst 0, 1) := by decide +kernel
theorem dc_C_into_21 : decode bc_C_into 21 = .ok (.ireturn, 1) := by decide +kernel
theorem dc_C_into_22 : decode bc_C_into 22 = .ok (.aload_n 0, 1) := by decide +kernel
theorem dc_C_into_23 : decode bc_C_into 23 = .ok (.getfield 19, 3) := by decide +kernel
theorem dc_C_into_26 : decode bc_C_into 26 = .ok (.iload_n 1, 1) := by decide +kernel
theorem dc_C_into_27 : decode bc_C_into 27 = .ok (.iload_n 2, 1) := by decide +kernel
theorem dc_C_into_28 : decode bc_C_into 28 = .ok (.iastore, 1) := by decide +kernel
theorem dc_C_into_29 : decode bc_C_into 29 = .ok (.iconst 1, 1) := by decide +kernel
theorem dc_C_into_30 : decode bc_C_into 30 = .ok (.ireturn, 1) := by decide +kernel
theorem dc_C_pooled_0 : decode bc_C_pooled 0 = .ok (.aload_n 0, 1) := by decide +kernel
theorem dc_C_pooled_1 : decode bc_C_pooled 1 = .ok (.iload_n 1, 1) := by decide +kernel
theorem dc_C_pooled_2 : decode bc_C_pooled 2 = .ok (.invokevirtual 62, 3) := by decide +kernel
theorem dc_C_pooled_5 : decode bc_C_pooled 5 = .ok (.astore_n 3, 1) := by decide +kernel
theorem dc_C_pooled_6 : decode bc_C_pooled 6 = .ok (.aload_n 3, 1) := by decide +kernel
theorem dc_C_pooled_7 : decode bc_C_pooled 7 = .ok (.ifnull 10, 3) := by decide +kernel
theorem dc_C_pooled_10 : decode bc_C_pooled 10 = .ok (.iload_n 2, 1) := by decide +kernel
theorem dc_C_pooled_11 : decode bc_C_pooled 11 = .ok (.invokestatic 139, 3) := by decide +kernel
theorem dc_C_pooled_14 : decode bc_C_pooled 14 = .ok (.ifCond .ne 7, 3) := by decide +kernel
theorem dc_C_pooled_17 : decode bc_C_pooled 17 = .ok (.ldc2_w 101, 3) := by decide +kernel
theorem dc_C_pooled_20 : decode bc_C_pooled 20 = .ok (.lreturn, 1) := by decide +kernel
theorem dc_C_pooled_21 : decode bc_C_pooled 21 = .ok (.lconst 0, 1) := by decide +kernel
theorem dc_C_pooled_22 : decode bc_C_pooled 22 = .ok (.lstore 4, 2) := by decide +kernel
theorem dc_C_pooled_24 : decode bc_C_pooled 24 = .ok (.iconst 0, 1) := by decide +kernel
theorem dc_C_pooled_25 : decode bc_C_pooled 25 = .ok (.istore 6, 2) := by decide +kernel
theorem dc_C_pooled_27 : decode bc_C_pooled 27 = .ok (.iload 6, 2) := by decide +kernel
theorem dc_C_pooled_29 : decode bc_C_pooled 29 = .ok (.aload_n 0, 1) := by decide +kernel
theorem dc_C_pooled_30 : decode bc_C_pooled 30 = .ok (.getfield 55, 3) := by decide +kernel
theorem dc_C_pooled_33 : decode bc_C_pooled 33 = .ok (.if_icmp .ge 32, 3) := by decide +kernel
theorem dc_C_pooled_36 : decode bc_C_pooled 36 = .ok (.aload_n 0, 1) := by decide +kernel
theorem dc_C_pooled_37 : decode bc_C_pooled 37 = .ok (.getfield 19, 3) := by decide +kernel
theorem dc_C_pooled_40 : decode bc_C_pooled 40 = .ok (.iload 6, 2) := by decide +kernel
theorem dc_C_pooled_42 : decode bc_C_pooled 42 = .ok (.iaload, 1) := by decide +kernel
theorem dc_C_pooled_43 : decode bc_C_pooled 43 = .ok (.iload_n 2, 1) := by decide +kernel
theorem dc_C_pooled_44 : decode bc_C_pooled 44 = .ok (.if_icmp .ne 15, 3) := by decide +kernel
theorem dc_C_pooled_47 : decode bc_C_pooled 47 = .ok (.lload 4, 2) := by decide +kernel
theorem dc_C_pooled_49 : decode bc_C_pooled 49 = .ok (.aload_n 0, 1) := by decide +kernel
theorem dc_C_pooled_50 : decode bc_C_pooled 50 = .ok (.aload_n 3, 1) := by decide +kernel
theorem dc_C_pooled_51 : decode bc_C_pooled 51 = .ok (.iload 6, 2) := by decide +kernel
theorem dc_C_pooled_53 : decode bc_C_pooled 53 = .ok (.invokevirtual 116, 3) := by decide +kernel
theorem dc_C_pooled_56 : decode bc_C_pooled 56 = .ok (.ladd, 1) := by decide +kernel
theorem dc_C_pooled_57 : decode bc_C_pooled 57 = .ok (.lstore 4, 2) := by decide +kernel
theorem dc_C_pooled_59 : decode bc_C_pooled 59 = .ok (.iinc 6 1, 3) := by decide +kernel
theorem dc_C_pooled_62 : decode bc_C_pooled 62 = .ok (.goto (-35), 3) := by decide +kernel
theorem dc_C_pooled_65 : decode bc_C_pooled 65 = .ok (.lload 4, 2) := by decide +kernel
theorem dc_C_pooled_67 : decode bc_C_pooled 67 = .ok (.lreturn, 1) := by decide +kernel
theorem dc_C_owns_0 : decode bc_C_owns 0 = .ok (.iload_n 1, 1) := by decide +kernel
theorem dc_C_owns_1 : decode bc_C_owns 1 = .ok (.invokestatic 58, 3) := by decide +kernel
theorem dc_C_owns_4 : decode bc_C_owns 4 = .ok (.ifCond .eq 22, 3) := by decide +kernel
theorem dc_C_owns_7 : decode bc_C_owns 7 = .ok (.iload_n 2, 1) := by decide +kernel
theorem dc_C_owns_8 : decode bc_C_owns 8 = .ok (.invokestatic 58, 3) := by decide +kernel
theorem dc_C_owns_11 : decode bc_C_owns 11 = .ok (.ifCond .eq 15, 3) := by decide +kernel
theorem dc_C_owns_14 : decode bc_C_owns 14 = .ok (.iload_n 3, 1) := by decide +kernel
theorem dc_C_owns_15 : decode bc_C_owns 15 = .ok (.i2l, 1) := by decide +kernel
theorem dc_C_owns_16 : decode bc_C_owns 16 = .ok (.lconst 0, 1) := by decide +kernel
theorem dc_C_owns_17 : decode bc_C_owns 17 = .ok (.ldc2_w 142, 3) := by decide +kernel
theorem dc_C_owns_20 : decode bc_C_owns 20 = .ok (.invokestatic 48, 3) := by decide +kernel
theorem dc_C_owns_23 : decode bc_C_owns 23 = .ok (.ifCond .ne 5, 3) := by decide +kernel
theorem dc_C_owns_26 : decode bc_C_owns 26 = .ok (.iconst 0, 1) := by decide +kernel
theorem dc_C_owns_27 : decode bc_C_owns 27 = .ok (.ireturn, 1) := by decide +kernel
theorem dc_C_owns_28 : decode bc_C_owns 28 = .ok (.iload_n 3, 1) := by decide +kernel
theorem dc_C_owns_29 : decode bc_C_owns 29 = .ok (.ifCond .le 16, 3) := by decide +kernel
theorem dc_C_owns_32 : decode bc_C_owns 32 = .ok (.aload_n 0, 1) := by decide +kernel
theorem dc_C_owns_33 : decode bc_C_owns 33 = .ok (.iload_n 2, 1) := by decide +kernel
theorem dc_C_owns_34 : decode bc_C_owns 34 = .ok (.iload_n 1, 1) := by decide +kernel
theorem dc_C_owns_35 : decode bc_C_owns 35 = .ok (.invokevirtual 144, 3) := by decide +kernel
theorem dc_C_owns_38 : decode bc_C_owns 38 = .ok (.lconst 0, 1) := by decide +kernel
theorem dc_C_owns_39 : decode bc_C_owns 39 = .ok (.lcmp, 1) := by decide +kernel
theorem dc_C_owns_40 : decode bc_C_owns 40 = .ok (.ifCond .le 5, 3) := by decide +kernel
theorem dc_C_owns_43 : decode bc_C_owns 43 = .ok (.iconst 0, 1) := by decide +kernel
theorem dc_C_owns_44 : decode bc_C_owns 44 = .ok (.ireturn, 1) := by decide +kernel
theorem dc_C_owns_45 : decode bc_C_owns 45 = .ok (.aload_n 0, 1) := by decide +kernel
theorem dc_C_owns_46 : decode bc_C_owns 46 = .ok (.getfield 32, 3) := by decide +kernel
theorem dc_C_owns_49 : decode bc_C_owns 49 = .ok (.iload_n 1, 1) := by decide +kernel
theorem dc_C_owns_50 : decode bc_C_owns 50 = .ok (.iload_n 2, 1) := by decide +kernel
theorem dc_C_owns_51 : decode bc_C_owns 51 = .ok (.iload_n 3, 1) := by decide +kernel
theorem dc_C_owns_52 : decode bc_C_owns 52 = .ok (.invokevirtual 148, 3) := by decide +kernel
theorem dc_C_owns_55 : decode bc_C_owns 55 = .ok (.ireturn, 1) := by decide +kernel
theorem dc_C_hold_0 : decode bc_C_hold 0 = .ok (.iload_n 1, 1) := by decide +kernel
theorem dc_C_hold_1 : decode bc_C_hold 1 = .ok (.invokestatic 58, 3) := by decide +kernel
theorem dc_C_hold_4 : decode bc_C_hold 4 = .ok (.ifCond .eq 10, 3) := by decide +kernel
theorem dc_C_hold_7 : decode bc_C_hold 7 = .ok (.iload_n 2, 1) := by decide +kernel
theorem dc_C_hold_8 : decode bc_C_hold 8 = .ok (.invokestatic 58, 3) := by decide +kernel
theorem dc_C_hold_11 : decode bc_C_hold 11 = .ok (.ifCond .ne 7, 3) := by decide +kernel
theorem dc_C_hold_14 : decode bc_C_hold 14 = .ok (.ldc2_w 101, 3) := by decide +kernel
theorem dc_C_hold_17 : decode bc_C_hold 17 = .ok (.lreturn, 1) := by decide +kernel
theorem dc_C_hold_18 : decode bc_C_hold 18 = .ok (.aload_n 0, 1) := by decide +kernel
theorem dc_C_hold_19 : decode bc_C_hold 19 = .ok (.iload_n 1, 1) := by decide +kernel
theorem dc_C_hold_20 : decode bc_C_hold 20 = .ok (.iload_n 2, 1) := by decide +kernel
theorem dc_C_hold_21 : decode bc_C_hold 21 = .ok (.invokevirtual 144, 3) := by decide +kernel
theorem dc_C_hold_24 : decode bc_C_hold 24 = .ok (.lreturn, 1) := by decide +kernel
theorem dc_C_cap_0 : decode bc_C_cap 0 = .ok (.aload_n 0, 1) := by decide +kernel
theorem dc_C_cap_1 : decode bc_C_cap 1 = .ok (.iload_n 1, 1) := by decide +kernel
theorem dc_C_cap_2 : decode bc_C_cap 2 = .ok (.invokevirtual 62, 3) := by decide +kernel
theorem dc_C_cap_5 : decode bc_C_cap 5 = .ok (.astore_n 3, 1) := by decide +kernel
theorem dc_C_cap_6 : decode bc_C_cap 6 = .ok (.aload_n 3, 1) := by decide +kernel
theorem dc_C_cap_7 : decode bc_C_cap 7 = .ok (.ifnull 15, 3) := by decide +kernel
theorem dc_C_cap_10 : decode bc_C_cap 10 = .ok (.iload_n 2, 1) := by decide +kernel
theorem dc_C_cap_11 : decode bc_C_cap 11 = .ok (.i2l, 1) := by decide +kernel
theorem dc_C_cap_12 : decode bc_C_cap 12 = .ok (.lconst 0, 1) := by decide +kernel
theorem dc_C_cap_13 : decode bc_C_cap 13 = .ok (.ldc2_w 142, 3) := by decide +kernel
theorem dc_C_cap_16 : decode bc_C_cap 16 = .ok (.invokestatic 48, 3) := by decide +kernel
theorem dc_C_cap_19 : decode bc_C_cap 19 = .ok (.ifCond .ne 5, 3) := by decide +kernel
theorem dc_C_cap_22 : decode bc_C_cap 22 = .ok (.iconst 0, 1) := by decide +kernel
theorem dc_C_cap_23 : decode bc_C_cap 23 = .ok (.ireturn, 1) := by decide +kernel
theorem dc_C_cap_24 : decode bc_C_cap 24 = .ok (.aload_n 3, 1) := by decide +kernel
theorem dc_C_cap_25 : decode bc_C_cap 25 = .ok (.iload_n 2, 1) := by decide +kernel
theorem dc_C_cap_26 : decode bc_C_cap 26 = .ok (.putfield 152, 3) := by decide +kernel
theorem dc_C_cap_29 : decode bc_C_cap 29 = .ok (.iconst 1, 1) := by decide +kernel
theorem dc_C_cap_30 : decode bc_C_cap 30 = .ok (.ireturn, 1) := by decide +kernel
theorem dc_C_capped_0 : decode bc_C_capped 0 = .ok (.iload_n 1, 1) := by decide +kernel
theorem dc_C_capped_1 : decode bc_C_capped 1 = .ok (.invokestatic 58, 3) := by decide +kernel
theorem dc_C_capped_4 : decode bc_C_capped 4 = .ok (.ifCond .ne 5, 3) := by decide +kernel
theorem dc_C_capped_7 : decode bc_C_capped 7 = .ok (.iconst 0, 1) := by decide +kernel
theorem dc_C_capped_8 : decode bc_C_capped 8 = .ok (.ireturn, 1) := by decide +kernel
theorem dc_C_capped_9 : decode bc_C_capped 9 = .ok (.aload_n 0, 1) := by decide +kernel
theorem dc_C_capped_10 : decode bc_C_capped 10 = .ok (.getfield 32, 3) := by decide +kernel
theorem dc_C_capped_13 : decode bc_C_capped 13 = .ok (.iload_n 1, 1) := by decide +kernel
theorem dc_C_capped_14 : decode bc_C_capped 14 = .ok (.invokevirtual 155, 3) := by decide +kernel
theorem dc_C_capped_17 : decode bc_C_capped 17 = .ok (.iconst 0, 1) := by decide +kernel
theorem dc_C_capped_18 : decode bc_C_capped 18 = .ok (.istore_n 2, 1) := by decide +kernel
theorem dc_C_capped_19 : decode bc_C_capped 19 = .ok (.iload_n 2, 1) := by decide +kernel
theorem dc_C_capped_20 : decode bc_C_capped 20 = .ok (.aload_n 0, 1) := by decide +kernel
theorem dc_C_capped_21 : decode bc_C_capped 21 = .ok (.getfield 43, 3) := by decide +kernel
theorem dc_C_capped_24 : decode bc_C_capped 24 = .ok (.if_icmp .ge 29, 3) := by decide +kernel
theorem dc_C_capped_27 : decode bc_C_capped 27 = .ok (.aload_n 0, 1) := by decide +kernel
theorem dc_C_capped_28 : decode bc_C_capped 28 = .ok (.iload_n 2, 1) := by decide +kernel
theorem dc_C_capped_29 : decode bc_C_capped 29 = .ok (.invokevirtual 62, 3) := by decide +kernel
theorem dc_C_capped_32 : decode bc_C_capped 32 = .ok (.astore_n 3, 1) := by decide +kernel
theorem dc_C_capped_33 : decode bc_C_capped 33 = .ok (.aload_n 3, 1) := by decide +kernel
theorem dc_C_capped_34 : decode bc_C_capped 34 = .ok (.ifnull 13, 3) := by decide +kernel
theorem dc_C_capped_37 : decode bc_C_capped 37 = .ok (.aload_n 0, 1) := by decide +kernel
theorem dc_C_capped_38 : decode bc_C_capped 38 = .ok (.aload_n 3, 1) := by decide +kernel
theorem dc_C_capped_39 : decode bc_C_capped 39 = .ok (.invokevirtual 159, 3) := by decide +kernel
theorem dc_C_capped_42 : decode bc_C_capped 42 = .ok (.ifCond .eq 5, 3) := by decide +kernel
theorem dc_C_capped_45 : decode bc_C_capped 45 = .ok (.iconst 1, 1) := by decide +kernel
theorem dc_C_capped_46 : decode bc_C_capped 46 = .ok (.ireturn, 1) := by decide +kernel
theorem dc_C_capped_47 : decode bc_C_capped 47 = .ok (.iinc 2 1, 3) := by decide +kernel
theorem dc_C_capped_50 : decode bc_C_capped 50 = .ok (.goto (-31), 3) := by decide +kernel
theorem dc_C_capped_53 : decode bc_C_capped 53 = .ok (.iconst 0, 1) := by decide +kernel
theorem dc_C_capped_54 : decode bc_C_capped 54 = .ok (.ireturn, 1) := by decide +kernel
theorem dc_C_choke_0 : decode bc_C_choke 0 = .ok (.aload_n 0, 1) := by decide +kernel
theorem dc_C_choke_1 : decode bc_C_choke 1 = .ok (.iload_n 1, 1) := by decide +kernel
theorem dc_C_choke_2 : decode bc_C_choke 2 = .ok (.invokevirtual 66, 3) := by decide +kernel
theorem dc_C_choke_5 : decode bc_C_choke 5 = .ok (.ifCond .ne 5, 3) := by decide +kernel
theorem dc_C_choke_8 : decode bc_C_choke 8 = .ok (.iconst (-1), 1) := by decide +kernel
theorem dc_C_choke_9 : decode bc_C_choke 9 = .ok (.ireturn, 1) := by decide +kernel
theorem dc_C_choke_10 : decode bc_C_choke 10 = .ok (.aconst_null, 1) := by decide +kernel
theorem dc_C_choke_11 : decode bc_C_choke 11 = .ok (.astore_n 2, 1) := by decide +kernel
theorem dc_C_choke_12 : decode bc_C_choke 12 = .ok (.iconst 0, 1) := by decide +kernel
theorem dc_C_choke_13 : decode bc_C_choke 13 = .ok (.istore_n 3, 1) := by decide +kernel
theorem dc_C_choke_14 : decode bc_C_choke 14 = .ok (.iload_n 3, 1) := by decide +kernel
theorem dc_C_choke_15 : decode bc_C_choke 15 = .ok (.aload_n 0, 1) := by decide +kernel
theorem dc_C_choke_16 : decode bc_C_choke 16 = .ok (.getfield 43, 3) := by decide +kernel
theorem dc_C_choke_19 : decode bc_C_choke 19 = .ok (.if_icmp .ge 51, 3) := by decide +kernel
theorem dc_C_choke_22 : decode bc_C_choke 22 = .ok (.aload_n 0, 1) := by decide +kernel
theorem dc_C_choke_23 : decode bc_C_choke 23 = .ok (.iload_n 3, 1) := by decide +kernel
theorem dc_C_choke_24 : decode bc_C_choke 24 = .ok (.invokevirtual 62, 3) := by decide +kernel
theorem dc_C_choke_27 : decode bc_C_choke 27 = .ok (.astore 4, 2) := by decide +kernel
theorem dc_C_choke_29 : decode bc_C_choke 29 = .ok (.aload 4, 2) := by decide +kernel
theorem dc_C_choke_31 : decode bc_C_choke 31 = .ok (.ifnull 33, 3) := by decide +kernel
theorem dc_C_choke_34 : decode bc_C_choke 34 = .ok (.aload 4, 2) := by decide +kernel
theorem dc_C_choke_36 : decode bc_C_choke 36 = .ok (.getfield 103, 3) := by decide +kernel
theorem dc_C_choke_39 : decode bc_C_choke 39 = .ok (.iload_n 1, 1) := by decide +kernel
theorem dc_C_choke_40 : decode bc_C_choke 40 = .ok (.laload, 1) := by decide +kernel
theorem dc_C_choke_41 : decode bc_C_choke 41 = .ok (.lconst 0, 1) := by decide +kernel
theorem dc_C_choke_42 : decode bc_C_choke 42 = .ok (.lcmp, 1) := by decide +kernel
theorem dc_C_choke_43 : decode bc_C_choke 43 = .ok (.ifCond .le 21, 3) := by decide +kernel
theorem dc_C_choke_46 : decode bc_C_choke 46 = .ok (.aload_n 2, 1) := by decide +kernel
theorem dc_C_choke_47 : decode bc_C_choke 47 = .ok (.ifnull 14, 3) := by decide +kernel
theorem dc_C_choke_50 : decode bc_C_choke 50 = .ok (.aload_n 0, 1) := by decide +kernel
theorem dc_C_choke_51 : decode bc_C_choke 51 = .ok (.aload 4, 2) := by decide +kernel
theorem dc_C_choke_53 : decode bc_C_choke 53 = .ok (.aload_n 2, 1) := by decide +kernel
theorem dc_C_choke_54 : decode bc_C_choke 54 = .ok (.iload_n 1, 1) := by decide +kernel
theorem dc_C_choke_55 : decode bc_C_choke 55 = .ok (.invokevirtual 163, 3) := by decide +kernel
theorem dc_C_choke_58 : decode bc_C_choke 58 = .ok (.ifCond .eq 6, 3) := by decide +kernel
theorem dc_C_choke_61 : decode bc_C_choke 61 = .ok (.aload 4, 2) := by decide +kernel
theorem dc_C_choke_63 : decode bc_C_choke 63 = .ok (.astore_n 2, 1) := by decide +kernel
theorem dc_C_choke_64 : decode bc_C_choke 64 = .ok (.iinc 3 1, 3) := by decide +kernel
theorem dc_C_choke_67 : decode bc_C_choke 67 = .ok (.goto (-53), 3) := by decide +kernel
theorem dc_C_choke_70 : decode bc_C_choke 70 = .ok (.aload_n 2, 1) := by decide +kernel
theorem dc_C_choke_71 : decode bc_C_choke 71 = .ok (.ifnonnull 7, 3) := by decide +kernel
theorem dc_C_choke_74 : decode bc_C_choke 74 = .ok (.iconst (-1), 1) := by decide +kernel
theorem dc_C_choke_75 : decode bc_C_choke 75 = .ok (.goto 7, 3) := by decide +kernel
theorem dc_C_choke_78 : decode bc_C_choke 78 = .ok (.aload_n 2, 1) := by decide +kernel
theorem dc_C_choke_79 : decode bc_C_choke 79 = .ok (.getfield 167, 3) := by decide +kernel
theorem dc_C_choke_82 : decode bc_C_choke 82 = .ok (.ireturn, 1) := by decide +kernel
theorem dc_C_closes_0 : decode bc_C_closes 0 = .ok (.aload_n 0, 1) := by decide +kernel
theorem dc_C_closes_1 : decode bc_C_closes 1 = .ok (.iload_n 1, 1) := by decide +kernel
theorem dc_C_closes_2 : decode bc_C_closes 2 = .ok (.invokevirtual 62, 3) := by decide +kernel
theorem dc_C_closes_5 : decode bc_C_closes 5 = .ok (.astore 4, 2) := by decide +kernel
theorem dc_C_closes_7 : decode bc_C_closes 7 = .ok (.aload 4, 2) := by decide +kernel
theorem dc_C_closes_9 : decode bc_C_closes 9 = .ok (.ifnull 22, 3) := by decide +kernel
theorem dc_C_closes_12 : decode bc_C_closes 12 = .ok (.aload 4, 2) := by decide +kernel
theorem dc_C_closes_14 : decode bc_C_closes 14 = .ok (.getfield 69, 3) := by decide +kernel
theorem dc_C_closes_17 : decode bc_C_closes 17 = .ok (.ifCond .eq 14, 3) := by decide +kernel
theorem dc_C_closes_20 : decode bc_C_closes 20 = .ok (.lload_n 2, 1) := by decide +kernel
theorem dc_C_closes_21 : decode bc_C_closes 21 = .ok (.lconst 1, 1) := by decide +kernel
theorem dc_C_closes_22 : decode bc_C_closes 22 = .ok (.ldc2_w 46, 3) := by decide +kernel
theorem dc_C_closes_25 : decode bc_C_closes 25 = .ok (.invokestatic 48, 3) := by decide +kernel
theorem dc_C_closes_28 : decode bc_C_closes 28 = .ok (.ifCond .ne 7, 3) := by decide +kernel
theorem dc_C_closes_31 : decode bc_C_closes 31 = .ok (.ldc2_w 101, 3) := by decide +kernel
theorem dc_C_closes_34 : decode bc_C_closes 34 = .ok (.lreturn, 1) := by decide +kernel
theorem dc_C_closes_35 : decode bc_C_closes 35 = .ok (.lconst 0, 1) := by decide +kernel
theorem dc_C_closes_36 : decode bc_C_closes 36 = .ok (.lstore 5, 2) := by decide +kernel
theorem dc_C_closes_38 : decode bc_C_closes 38 = .ok (.iconst 0, 1) := by decide +kernel
theorem dc_C_closes_39 : decode bc_C_closes 39 = .ok (.istore 7, 2) := by decide +kernel
theorem dc_C_closes_41 : decode bc_C_closes 41 = .ok (.iload 7, 2) := by decide +kernel
theorem dc_C_closes_43 : decode bc_C_closes 43 = .ok (.aload_n 0, 1) := by decide +kernel
theorem dc_C_closes_44 : decode bc_C_closes 44 = .ok (.getfield 55, 3) := by decide +kernel
theorem dc_C_closes_47 : decode bc_C_closes 47 = .ok (.if_icmp .ge 26, 3) := by decide +kernel
theorem dc_C_closes_50 : decode bc_C_closes 50 = .ok (.lload 5, 2) := by decide +kernel
theorem dc_C_closes_52 : decode bc_C_closes 52 = .ok (.lconst 0, 1) := by decide +kernel
theorem dc_C_closes_53 : decode bc_C_closes 53 = .ok (.aload_n 0, 1) := by decide +kernel
theorem dc_C_closes_54 : decode bc_C_closes 54 = .ok (.aload 4, 2) := by decide +kernel
theorem dc_C_closes_56 : decode bc_C_closes 56 = .ok (.iload 7, 2) := by decide +kernel
theorem dc_C_closes_58 : decode bc_C_closes 58 = .ok (.invokevirtual 116, 3) := by decide +kernel
theorem dc_C_closes_61 : decode bc_C_closes 61 = .ok (.invokestatic 170, 3) := by decide +kernel
theorem dc_C_closes_64 : decode bc_C_closes 64 = .ok (.ladd, 1) := by decide +kernel
theorem dc_C_closes_65 : decode bc_C_closes 65 = .ok (.lstore 5, 2) := by decide +kernel
theorem dc_C_closes_67 : decode bc_C_closes 67 = .ok (.iinc 7 1, 3) := by decide +kernel
theorem dc_C_closes_70 : decode bc_C_closes 70 = .ok (.goto (-29), 3) := by decide +kernel
theorem dc_C_closes_73 : decode bc_C_closes 73 = .ok (.lload 5, 2) := by decide +kernel
theorem dc_C_closes_75 : decode bc_C_closes 75 = .ok (.lload_n 2, 1) := by decide +kernel
theorem dc_C_closes_76 : decode bc_C_closes 76 = .ok (.invokestatic 176, 3) := by decide +kernel
theorem dc_C_closes_79 : decode bc_C_closes 79 = .ok (.lreturn, 1) := by decide +kernel
theorem dc_C_seen_0 : decode bc_C_seen 0 = .ok (.aload_n 0, 1) := by decide +kernel
theorem dc_C_seen_1 : decode bc_C_seen 1 = .ok (.iload_n 1, 1) := by decide +kernel
theorem dc_C_seen_2 : decode bc_C_seen 2 = .ok (.invokevirtual 62, 3) := by decide +kernel
theorem dc_C_seen_5 : decode bc_C_seen 5 = .ok (.astore 6, 2) := by decide +kernel
theorem dc_C_seen_7 : decode bc_C_seen 7 = .ok (.aload 6, 2) := by decide +kernel
theorem dc_C_seen_9 : decode bc_C_seen 9 = .ok (.ifnull 26, 3) := by decide +kernel
theorem dc_C_seen_12 : decode bc_C_seen 12 = .ok (.lload_n 2, 1) := by decide +kernel
theorem dc_C_seen_13 : decode bc_C_seen 13 = .ok (.lconst 0, 1) := by decide +kernel
theorem dc_C_seen_14 : decode bc_C_seen 14 = .ok (.ldc2_w 73, 3) := by decide +kernel
theorem dc_C_seen_17 : decode bc_C_seen 17 = .ok (.invokestatic 48, 3) := by decide +kernel
theorem dc_C_seen_20 : decode bc_C_seen 20 = .ok (.ifCond .eq 15, 3) := by decide +kernel
theorem dc_C_seen_23 : decode bc_C_seen 23 = .ok (.lload 4, 2) := by decide +kernel
theorem dc_C_seen_25 : decode bc_C_seen 25 = .ok (.lconst 0, 1) := by decide +kernel
theorem dc_C_seen_26 : decode bc_C_seen 26 = .ok (.ldc2_w 73, 3) := by decide +kernel
theorem dc_C_seen_29 : decode bc_C_seen 29 = .ok (.invokestatic 48, 3) := by decide +kernel
theorem dc_C_seen_32 : decode bc_C_seen 32 = .ok (.ifCond .ne 5, 3) := by decide +kernel
theorem dc_C_seen_35 : decode bc_C_seen 35 = .ok (.iconst 0, 1) := by decide +kernel
theorem dc_C_seen_36 : decode bc_C_seen 36 = .ok (.ireturn, 1) := by decide +kernel
theorem dc_C_seen_37 : decode bc_C_seen 37 = .ok (.aload 6, 2) := by decide +kernel
theorem dc_C_seen_39 : decode bc_C_seen 39 = .ok (.getfield 179, 3) := by decide +kernel
theorem dc_C_seen_42 : decode bc_C_seen 42 = .ok (.lload_n 2, 1) := by decide +kernel
theorem dc_C_seen_43 : decode bc_C_seen 43 = .ok (.ladd, 1) := by decide +kernel
theorem dc_C_seen_44 : decode bc_C_seen 44 = .ok (.ldc2_w 73, 3) := by decide +kernel
theorem dc_C_seen_47 : decode bc_C_seen 47 = .ok (.lcmp, 1) := by decide +kernel
theorem dc_C_seen_48 : decode bc_C_seen 48 = .ok (.ifCond .gt 18, 3) := by decide +kernel
theorem dc_C_seen_51 : decode bc_C_seen 51 = .ok (.aload 6, 2) := by decide +kernel
theorem dc_C_seen_53 : decode bc_C_seen 53 = .ok (.getfield 182, 3) := by decide +kernel
theorem dc_C_seen_56 : decode bc_C_seen 56 = .ok (.lload 4, 2) := by decide +kernel
theorem dc_C_seen_58 : decode bc_C_seen 58 = .ok (.ladd, 1) := by decide +kernel
theorem dc_C_seen_59 : decode bc_C_seen 59 = .ok (.ldc2_w 73, 3) := by decide +kernel
theorem dc_C_seen_62 : decode bc_C_seen 62 = .ok (.lcmp, 1) := by decide +kernel
theorem dc_C_seen_63 : decode bc_C_seen 63 = .ok (.ifCond .le 5, 3) := by decide +kernel
theorem dc_C_seen_66 : decode bc_C_seen 66 = .ok (.iconst 0, 1) := by decide +kernel
theorem dc_C_seen_67 : decode bc_C_seen 67 = .ok (.ireturn, 1) := by decide +kernel
theorem dc_C_seen_68 : decode bc_C_seen 68 = .ok (.aload 6, 2) := by decide +kernel
theorem dc_C_seen_70 : decode bc_C_seen 70 = .ok (.dup, 1) := by decide +kernel
theorem dc_C_seen_71 : decode bc_C_seen 71 = .ok (.getfield 179, 3) := by decide +kernel
theorem dc_C_seen_74 : decode bc_C_seen 74 = .ok (.lload_n 2, 1) := by decide +kernel
theorem dc_C_seen_75 : decode bc_C_seen 75 = .ok (.ladd, 1) := by decide +kernel
theorem dc_C_seen_76 : decode bc_C_seen 76 = .ok (.putfield 179, 3) := by decide +kernel
theorem dc_C_seen_79 : decode bc_C_seen 79 = .ok (.aload 6, 2) := by decide +kernel
theorem dc_C_seen_81 : decode bc_C_seen 81 = .ok (.dup, 1) := by decide +kernel
theorem dc_C_seen_82 : decode bc_C_seen 82 = .ok (.getfield 182, 3) := by decide +kernel
theorem dc_C_seen_85 : decode bc_C_seen 85 = .ok (.lload 4, 2) := by decide +kernel
theorem dc_C_seen_87 : decode bc_C_seen 87 = .ok (.ladd, 1) := by decide +kernel
theorem dc_C_seen_88 : decode bc_C_seen 88 = .ok (.putfield 182, 3) := by decide +kernel
theorem dc_C_seen_91 : decode bc_C_seen 91 = .ok (.iconst 1, 1) := by decide +kernel
theorem dc_C_seen_92 : decode bc_C_seen 92 = .ok (.ireturn, 1) := by decide +kernel
theorem dc_C_discard_0 : decode bc_C_discard 0 = .ok (.aload_n 0, 1) := by decide +kernel
theorem dc_C_discard_1 : decode bc_C_discard 1 = .ok (.iload_n 1, 1) := by decide +kernel
theorem dc_C_discard_2 : decode bc_C_discard 2 = .ok (.invokevirtual 62, 3) := by decide +kernel
theorem dc_C_discard_5 : decode bc_C_discard 5 = .ok (.astore_n 2, 1) := by decide +kernel
theorem dc_C_discard_6 : decode bc_C_discard 6 = .ok (.aload_n 2, 1) := by decide +kernel
theorem dc_C_discard_7 : decode bc_C_discard 7 = .ok (.ifnull 12, 3) := by decide +kernel
theorem dc_C_discard_10 : decode bc_C_discard 10 = .ok (.aload_n 2, 1) := by decide +kernel
theorem dc_C_discard_11 : decode bc_C_discard 11 = .ok (.getfield 179, 3) := by decide +kernel
theorem dc_C_discard_14 : decode bc_C_discard 14 = .ok (.lconst 1, 1) := by decide +kernel
theorem dc_C_discard_15 : decode bc_C_discard 15 = .ok (.lcmp, 1) := by decide +kernel
theorem dc_C_discard_16 : decode bc_C_discard 16 = .ok (.ifCond .ge 7, 3) := by decide +kernel
theorem dc_C_discard_19 : decode bc_C_discard 19 = .ok (.ldc2_w 101, 3) := by decide +kernel
theorem dc_C_discard_22 : decode bc_C_discard 22 = .ok (.lreturn, 1) := by decide +kernel
theorem dc_C_discard_23 : decode bc_C_discard 23 = .ok (.aload_n 0, 1) := by decide +kernel
theorem dc_C_discard_24 : decode bc_C_discard 24 = .ok (.getfield 25, 3) := by decide +kernel
theorem dc_C_discard_27 : decode bc_C_discard 27 = .ok (.iload_n 1, 1) := by decide +kernel
theorem dc_C_discard_28 : decode bc_C_discard 28 = .ok (.invokevirtual 185, 3) := by decide +kernel
theorem dc_C_discard_31 : decode bc_C_discard 31 = .ok (.aload_n 2, 1) := by decide +kernel
theorem dc_C_discard_32 : decode bc_C_discard 32 = .ok (.getfield 182, 3) := by decide +kernel
theorem dc_C_discard_35 : decode bc_C_discard 35 = .ok (.lmul, 1) := by decide +kernel
theorem dc_C_discard_36 : decode bc_C_discard 36 = .ok (.aload_n 2, 1) := by decide +kernel
theorem dc_C_discard_37 : decode bc_C_discard 37 = .ok (.getfield 179, 3) := by decide +kernel
theorem dc_C_discard_40 : decode bc_C_discard 40 = .ok (.ldiv, 1) := by decide +kernel
theorem dc_C_discard_41 : decode bc_C_discard 41 = .ok (.lreturn, 1) := by decide +kernel
theorem dc_C_told_0 : decode bc_C_told 0 = .ok (.aload_n 0, 1) := by decide +kernel
theorem dc_C_told_1 : decode bc_C_told 1 = .ok (.iload_n 1, 1) := by decide +kernel
theorem dc_C_told_2 : decode bc_C_told 2 = .ok (.invokevirtual 62, 3) := by decide +kernel
theorem dc_C_told_5 : decode bc_C_told 5 = .ok (.astore_n 3, 1) := by decide +kernel
theorem dc_C_told_6 : decode bc_C_told 6 = .ok (.aload_n 3, 1) := by decide +kernel
theorem dc_C_told_7 : decode bc_C_told 7 = .ok (.ifnonnull 7, 3) := by decide +kernel
theorem dc_C_told_10 : decode bc_C_told 10 = .ok (.ldc2_w 101, 3) := by decide +kernel
theorem dc_C_told_13 : decode bc_C_told 13 = .ok (.lreturn, 1) := by decide +kernel
theorem dc_C_told_14 : decode bc_C_told 14 = .ok (.iload_n 2, 1) := by decide +kernel
theorem dc_C_told_15 : decode bc_C_told 15 = .ok (.tableswitch 90 0 6 #[41, 46, 51, 64, 69, 78, 84], 41) := by decide +kernel
theorem dc_C_told_56 : decode bc_C_told 56 = .ok (.aload_n 3, 1) := by decide +kernel
theorem dc_C_told_57 : decode bc_C_told 57 = .ok (.getfield 79, 3) := by decide +kernel
theorem dc_C_told_60 : decode bc_C_told 60 = .ok (.lreturn, 1) := by decide +kernel
theorem dc_C_told_61 : decode bc_C_told 61 = .ok (.aload_n 3, 1) := by decide +kernel
theorem dc_C_told_62 : decode bc_C_told 62 = .ok (.getfield 83, 3) := by decide +kernel
theorem dc_C_told_65 : decode bc_C_told 65 = .ok (.lreturn, 1) := by decide +kernel
theorem dc_C_told_66 : decode bc_C_told 66 = .ok (.aload_n 3, 1) := by decide +kernel
theorem dc_C_told_67 : decode bc_C_told 67 = .ok (.getfield 69, 3) := by decide +kernel
theorem dc_C_told_70 : decode bc_C_told 70 = .ok (.ifCond .eq 7, 3) := by decide +kernel
theorem dc_C_told_73 : decode bc_C_told 73 = .ok (.lconst 1, 1) := by decide +kernel
theorem dc_C_told_74 : decode bc_C_told 74 = .ok (.goto 4, 3) := by decide +kernel
theorem dc_C_told_77 : decode bc_C_told 77 = .ok (.lconst 0, 1) := by decide +kernel
theorem dc_C_told_78 : decode bc_C_told 78 = .ok (.lreturn, 1) := by decide +kernel
theorem dc_C_told_79 : decode bc_C_told 79 = .ok (.aload_n 3, 1) := by decide +kernel
theorem dc_C_told_80 : decode bc_C_told 80 = .ok (.invokevirtual 124, 3) := by decide +kernel
theorem dc_C_told_83 : decode bc_C_told 83 = .ok (.lreturn, 1) := by decide +kernel
theorem dc_C_told_84 : decode bc_C_told 84 = .ok (.aload_n 0, 1) := by decide +kernel
theorem dc_C_told_85 : decode bc_C_told 85 = .ok (.getfield 25, 3) := by decide +kernel
theorem dc_C_told_88 : decode bc_C_told 88 = .ok (.iload_n 1, 1) := by decide +kernel
theorem dc_C_told_89 : decode bc_C_told 89 = .ok (.invokevirtual 185, 3) := by decide +kernel
theorem dc_C_told_92 : decode bc_C_told 92 = .ok (.lreturn, 1) := by decide +kernel
theorem dc_C_told_93 : decode bc_C_told 93 = .ok (.aload_n 3, 1) := by decide +kernel
theorem dc_C_told_94 : decode bc_C_told 94 = .ok (.getfield 152, 3) := by decide +kernel
theorem dc_C_told_97 : decode bc_C_told 97 = .ok (.i2l, 1) := by decide +kernel
theorem dc_C_told_98 : decode bc_C_told 98 = .ok (.lreturn, 1) := by decide +kernel
theorem dc_C_told_99 : decode bc_C_told 99 = .ok (.aload_n 3, 1) := by decide +kernel
theorem dc_C_told_100 : decode bc_C_told 100 = .ok (.getfield 86, 3) := by decide +kernel
theorem dc_C_told_103 : decode bc_C_told 103 = .ok (.i2l, 1) := by decide +kernel
theorem dc_C_told_104 : decode bc_C_told 104 = .ok (.lreturn, 1) := by decide +kernel
theorem dc_C_told_105 : decode bc_C_told 105 = .ok (.ldc2_w 101, 3) := by decide +kernel
theorem dc_C_told_108 : decode bc_C_told 108 = .ok (.lreturn, 1) := by decide +kernel
theorem dc_C_sums_0 : decode bc_C_sums 0 = .ok (.aload_n 0, 1) := by decide +kernel
theorem dc_C_sums_1 : decode bc_C_sums 1 = .ok (.iload_n 1, 1) := by decide +kernel
theorem dc_C_sums_2 : decode bc_C_sums 2 = .ok (.invokevirtual 62, 3) := by decide +kernel
theorem dc_C_sums_5 : decode bc_C_sums 5 = .ok (.astore_n 2, 1) := by decide +kernel
theorem dc_C_sums_6 : decode bc_C_sums 6 = .ok (.aload_n 2, 1) := by decide +kernel
theorem dc_C_sums_7 : decode bc_C_sums 7 = .ok (.ifnull 26, 3) := by decide +kernel
theorem dc_C_sums_10 : decode bc_C_sums 10 = .ok (.aload_n 2, 1) := by decide +kernel
theorem dc_C_sums_11 : decode bc_C_sums 11 = .ok (.getfield 69, 3) := by decide +kernel
theorem dc_C_sums_14 : decode bc_C_sums 14 = .ok (.ifCond .eq 19, 3) := by decide +kernel
theorem dc_C_sums_17 : decode bc_C_sums 17 = .ok (.aload_n 2, 1) := by decide +kernel
theorem dc_C_sums_18 : decode bc_C_sums 18 = .ok (.invokevirtual 124, 3) := by decide +kernel
theorem dc_C_sums_21 : decode bc_C_sums 21 = .ok (.aload_n 2, 1) := by decide +kernel
theorem dc_C_sums_22 : decode bc_C_sums 22 = .ok (.getfield 189, 3) := by decide +kernel
theorem dc_C_sums_25 : decode bc_C_sums 25 = .ok (.lcmp, 1) := by decide +kernel
theorem dc_C_sums_26 : decode bc_C_sums 26 = .ok (.ifCond .ne 7, 3) := by decide +kernel
theorem dc_C_sums_29 : decode bc_C_sums 29 = .ok (.iconst 1, 1) := by decide +kernel
theorem dc_C_sums_30 : decode bc_C_sums 30 = .ok (.goto 4, 3) := by decide +kernel
theorem dc_C_sums_33 : decode bc_C_sums 33 = .ok (.iconst 0, 1) := by decide +kernel
theorem dc_C_sums_34 : decode bc_C_sums 34 = .ok (.ireturn, 1) := by decide +kernel
theorem dc_C_isWithin_0 : decode bc_C_isWithin 0 = .ok (.lload_n 0, 1) := by decide +kernel
theorem dc_C_isWithin_1 : decode bc_C_isWithin 1 = .ok (.lload_n 2, 1) := by decide +kernel
theorem dc_C_isWithin_2 : decode bc_C_isWithin 2 = .ok (.lcmp, 1) := by decide +kernel
theorem dc_C_isWithin_3 : decode bc_C_isWithin 3 = .ok (.ifCond .lt 14, 3) := by decide +kernel
theorem dc_C_isWithin_6 : decode bc_C_isWithin 6 = .ok (.lload_n 0, 1) := by decide +kernel
theorem dc_C_isWithin_7 : decode bc_C_isWithin 7 = .ok (.lload 4, 2) := by decide +kernel
theorem dc_C_isWithin_9 : decode bc_C_isWithin 9 = .ok (.lcmp, 1) := by decide +kernel
theorem dc_C_isWithin_10 : decode bc_C_isWithin 10 = .ok (.ifCond .gt 7, 3) := by decide +kernel
theorem dc_C_isWithin_13 : decode bc_C_isWithin 13 = .ok (.iconst 1, 1) := by decide +kernel
theorem dc_C_isWithin_14 : decode bc_C_isWithin 14 = .ok (.goto 4, 3) := by decide +kernel
theorem dc_C_isWithin_17 : decode bc_C_isWithin 17 = .ok (.iconst 0, 1) := by decide +kernel
theorem dc_C_isWithin_18 : decode bc_C_isWithin 18 = .ok (.ireturn, 1) := by decide +kernel
theorem dc_C_isFraction_0 : decode bc_C_isFraction 0 = .ok (.iload_n 0, 1) := by decide +kernel
theorem dc_C_isFraction_1 : decode bc_C_isFraction 1 = .ok (.i2l, 1) := by decide +kernel
theorem dc_C_isFraction_2 : decode bc_C_isFraction 2 = .ok (.lconst 1, 1) := by decide +kernel
theorem dc_C_isFraction_3 : decode bc_C_isFraction 3 = .ok (.ldc2_w 192, 3) := by decide +kernel
theorem dc_C_isFraction_6 : decode bc_C_isFraction 6 = .ok (.invokestatic 48, 3) := by decide +kernel
theorem dc_C_isFraction_9 : decode bc_C_isFraction 9 = .ok (.ifCond .eq 19, 3) := by decide +kernel
theorem dc_C_isFraction_12 : decode bc_C_isFraction 12 = .ok (.iload_n 1, 1) := by decide +kernel
theorem dc_C_isFraction_13 : decode bc_C_isFraction 13 = .ok (.i2l, 1) := by decide +kernel
theorem dc_C_isFraction_14 : decode bc_C_isFraction 14 = .ok (.lconst 1, 1) := by decide +kernel
theorem dc_C_isFraction_15 : decode bc_C_isFraction 15 = .ok (.ldc2_w 192, 3) := by decide +kernel
theorem dc_C_isFraction_18 : decode bc_C_isFraction 18 = .ok (.invokestatic 48, 3) := by decide +kernel
theorem dc_C_isFraction_21 : decode bc_C_isFraction 21 = .ok (.ifCond .eq 7, 3) := by decide +kernel
theorem dc_C_isFraction_24 : decode bc_C_isFraction 24 = .ok (.iconst 1, 1) := by decide +kernel
theorem dc_C_isFraction_25 : decode bc_C_isFraction 25 = .ok (.goto 4, 3) := by decide +kernel
theorem dc_C_isFraction_28 : decode bc_C_isFraction 28 = .ok (.iconst 0, 1) := by decide +kernel
theorem dc_C_isFraction_29 : decode bc_C_isFraction 29 = .ok (.ireturn, 1) := by decide +kernel
theorem dc_C_dividedUp_0 : decode bc_C_dividedUp 0 = .ok (.lload_n 2, 1) := by decide +kernel
theorem dc_C_dividedUp_1 : decode bc_C_dividedUp 1 = .ok (.lconst 1, 1) := by decide +kernel
theorem dc_C_dividedUp_2 : decode bc_C_dividedUp 2 = .ok (.lcmp, 1) := by decide +kernel
theorem dc_C_dividedUp_3 : decode bc_C_dividedUp 3 = .ok (.ifCond .ge 7, 3) := by decide +kernel
theorem dc_C_dividedUp_6 : decode bc_C_dividedUp 6 = .ok (.lconst 0, 1) := by decide +kernel
theorem dc_C_dividedUp_7 : decode bc_C_dividedUp 7 = .ok (.goto 10, 3) := by decide +kernel
theorem dc_C_dividedUp_10 : decode bc_C_dividedUp 10 = .ok (.lload_n 0, 1) := by decide +kernel
theorem dc_C_dividedUp_11 : decode bc_C_dividedUp 11 = .ok (.lload_n 2, 1) := by decide +kernel
theorem dc_C_dividedUp_12 : decode bc_C_dividedUp 12 = .ok (.ladd, 1) := by decide +kernel
theorem dc_C_dividedUp_13 : decode bc_C_dividedUp 13 = .ok (.lconst 1, 1) := by decide +kernel
theorem dc_C_dividedUp_14 : decode bc_C_dividedUp 14 = .ok (.lsub, 1) := by decide +kernel
theorem dc_C_dividedUp_15 : decode bc_C_dividedUp 15 = .ok (.lload_n 2, 1) := by decide +kernel
theorem dc_C_dividedUp_16 : decode bc_C_dividedUp 16 = .ok (.ldiv, 1) := by decide +kernel
theorem dc_C_dividedUp_17 : decode bc_C_dividedUp 17 = .ok (.lreturn, 1) := by decide +kernel
theorem dc_C_isOwner_0 : decode bc_C_isOwner 0 = .ok (.iload_n 0, 1) := by decide +kernel
theorem dc_C_isOwner_1 : decode bc_C_isOwner 1 = .ok (.ifCond .lt 13, 3) := by decide +kernel
theorem dc_C_isOwner_4 : decode bc_C_isOwner 4 = .ok (.iload_n 0, 1) := by decide +kernel
theorem dc_C_isOwner_5 : decode bc_C_isOwner 5 = .ok (.bipush 10, 2) := by decide +kernel
theorem dc_C_isOwner_7 : decode bc_C_isOwner 7 = .ok (.if_icmp .ge 7, 3) := by decide +kernel
theorem dc_C_isOwner_10 : decode bc_C_isOwner 10 = .ok (.iconst 1, 1) := by decide +kernel
theorem dc_C_isOwner_11 : decode bc_C_isOwner 11 = .ok (.goto 4, 3) := by decide +kernel
theorem dc_C_isOwner_14 : decode bc_C_isOwner 14 = .ok (.iconst 0, 1) := by decide +kernel
theorem dc_C_isOwner_15 : decode bc_C_isOwner 15 = .ok (.ireturn, 1) := by decide +kernel
theorem dc_C_isPool_0 : decode bc_C_isPool 0 = .ok (.iload_n 0, 1) := by decide +kernel
theorem dc_C_isPool_1 : decode bc_C_isPool 1 = .ok (.ifCond .lt 12, 3) := by decide +kernel
theorem dc_C_isPool_4 : decode bc_C_isPool 4 = .ok (.iload_n 0, 1) := by decide +kernel
theorem dc_C_isPool_5 : decode bc_C_isPool 5 = .ok (.iconst 4, 1) := by decide +kernel
theorem dc_C_isPool_6 : decode bc_C_isPool 6 = .ok (.if_icmp .ge 7, 3) := by decide +kernel
theorem dc_C_isPool_9 : decode bc_C_isPool 9 = .ok (.iconst 1, 1) := by decide +kernel
theorem dc_C_isPool_10 : decode bc_C_isPool 10 = .ok (.goto 4, 3) := by decide +kernel
theorem dc_C_isPool_13 : decode bc_C_isPool 13 = .ok (.iconst 0, 1) := by decide +kernel
theorem dc_C_isPool_14 : decode bc_C_isPool 14 = .ok (.ireturn, 1) := by decide +kernel
theorem dc_C_isHolder_0 : decode bc_C_isHolder 0 = .ok (.iload_n 1, 1) := by decide +kernel
theorem dc_C_isHolder_1 : decode bc_C_isHolder 1 = .ok (.ifCond .lt 15, 3) := by decide +kernel
theorem dc_C_isHolder_4 : decode bc_C_isHolder 4 = .ok (.iload_n 1, 1) := by decide +kernel
theorem dc_C_isHolder_5 : decode bc_C_isHolder 5 = .ok (.aload_n 0, 1) := by decide +kernel
theorem dc_C_isHolder_6 : decode bc_C_isHolder 6 = .ok (.getfield 55, 3) := by decide +kernel
theorem dc_C_isHolder_9 : decode bc_C_isHolder 9 = .ok (.if_icmp .ge 7, 3) := by decide +kernel
theorem dc_C_isHolder_12 : decode bc_C_isHolder 12 = .ok (.iconst 1, 1) := by decide +kernel
theorem dc_C_isHolder_13 : decode bc_C_isHolder 13 = .ok (.goto 4, 3) := by decide +kernel
theorem dc_C_isHolder_16 : decode bc_C_isHolder 16 = .ok (.iconst 0, 1) := by decide +kernel
theorem dc_C_isHolder_17 : decode bc_C_isHolder 17 = .ok (.ireturn, 1) := by decide +kernel
theorem dc_C_findStock_0 : decode bc_C_findStock 0 = .ok (.iload_n 1, 1) := by decide +kernel
theorem dc_C_findStock_1 : decode bc_C_findStock 1 = .ok (.ifCond .lt 20, 3) := by decide +kernel
theorem dc_C_findStock_4 : decode bc_C_findStock 4 = .ok (.iload_n 1, 1) := by decide +kernel
theorem dc_C_findStock_5 : decode bc_C_findStock 5 = .ok (.aload_n 0, 1) := by decide +kernel
theorem dc_C_findStock_6 : decode bc_C_findStock 6 = .ok (.getfield 43, 3) := by decide +kernel
theorem dc_C_findStock_9 : decode bc_C_findStock 9 = .ok (.if_icmp .ge 12, 3) := by decide +kernel
theorem dc_C_findStock_12 : decode bc_C_findStock 12 = .ok (.aload_n 0, 1) := by decide +kernel
theorem dc_C_findStock_13 : decode bc_C_findStock 13 = .ok (.getfield 11, 3) := by decide +kernel
theorem dc_C_findStock_16 : decode bc_C_findStock 16 = .ok (.iload_n 1, 1) := by decide +kernel
theorem dc_C_findStock_17 : decode bc_C_findStock 17 = .ok (.aaload, 1) := by decide +kernel
theorem dc_C_findStock_18 : decode bc_C_findStock 18 = .ok (.goto 4, 3) := by decide +kernel
theorem dc_C_findStock_21 : decode bc_C_findStock 21 = .ok (.aconst_null, 1) := by decide +kernel
theorem dc_C_findStock_22 : decode bc_C_findStock 22 = .ok (.areturn, 1) := by decide +kernel
theorem dc_C_leftOn_0 : decode bc_C_leftOn 0 = .ok (.aload_n 1, 1) := by decide +kernel
theorem dc_C_leftOn_1 : decode bc_C_leftOn 1 = .ok (.getfield 103, 3) := by decide +kernel
theorem dc_C_leftOn_4 : decode bc_C_leftOn 4 = .ok (.iload_n 2, 1) := by decide +kernel
theorem dc_C_leftOn_5 : decode bc_C_leftOn 5 = .ok (.laload, 1) := by decide +kernel
theorem dc_C_leftOn_6 : decode bc_C_leftOn 6 = .ok (.aload_n 0, 1) := by decide +kernel
theorem dc_C_leftOn_7 : decode bc_C_leftOn 7 = .ok (.getfield 25, 3) := by decide +kernel
theorem dc_C_leftOn_10 : decode bc_C_leftOn 10 = .ok (.aload_n 1, 1) := by decide +kernel
theorem dc_C_leftOn_11 : decode bc_C_leftOn 11 = .ok (.getfield 167, 3) := by decide +kernel
theorem dc_C_leftOn_14 : decode bc_C_leftOn 14 = .ok (.iload_n 2, 1) := by decide +kernel
theorem dc_C_leftOn_15 : decode bc_C_leftOn 15 = .ok (.iload_n 3, 1) := by decide +kernel
theorem dc_C_leftOn_16 : decode bc_C_leftOn 16 = .ok (.invokevirtual 194, 3) := by decide +kernel
theorem dc_C_leftOn_19 : decode bc_C_leftOn 19 = .ok (.lsub, 1) := by decide +kernel
theorem dc_C_leftOn_20 : decode bc_C_leftOn 20 = .ok (.lreturn, 1) := by decide +kernel
theorem dc_C_leftInAll_0 : decode bc_C_leftInAll 0 = .ok (.aload_n 0, 1) := by decide +kernel
theorem dc_C_leftInAll_1 : decode bc_C_leftInAll 1 = .ok (.aload_n 1, 1) := by decide +kernel
theorem dc_C_leftInAll_2 : decode bc_C_leftInAll 2 = .ok (.iload_n 2, 1) := by decide +kernel
theorem dc_C_leftInAll_3 : decode bc_C_leftInAll 3 = .ok (.ldc 198, 2) := by decide +kernel
theorem dc_C_leftInAll_5 : decode bc_C_leftInAll 5 = .ok (.invokevirtual 112, 3) := by decide +kernel
theorem dc_C_leftInAll_8 : decode bc_C_leftInAll 8 = .ok (.lreturn, 1) := by decide +kernel
theorem dc_C_overOf_0 : decode bc_C_overOf 0 = .ok (.lconst 0, 1) := by decide +kernel
theorem dc_C_overOf_1 : decode bc_C_overOf 1 = .ok (.aload_n 0, 1) := by decide +kernel
theorem dc_C_overOf_2 : decode bc_C_overOf 2 = .ok (.aload_n 1, 1) := by decide +kernel
theorem dc_C_overOf_3 : decode bc_C_overOf 3 = .ok (.iload_n 2, 1) := by decide +kernel
theorem dc_C_overOf_4 : decode bc_C_overOf 4 = .ok (.invokevirtual 116, 3) := by decide +kernel
theorem dc_C_overOf_7 : decode bc_C_overOf 7 = .ok (.lneg, 1) := by decide +kernel
theorem dc_C_overOf_8 : decode bc_C_overOf 8 = .ok (.invokestatic 170, 3) := by decide +kernel
theorem dc_C_overOf_11 : decode bc_C_overOf 11 = .ok (.lreturn, 1) := by decide +kernel
theorem dc_C_carriedOf_0 : decode bc_C_carriedOf 0 = .ok (.aload_n 0, 1) := by decide +kernel
theorem dc_C_carriedOf_1 : decode bc_C_carriedOf 1 = .ok (.aload_n 1, 1) := by decide +kernel
theorem dc_C_carriedOf_2 : decode bc_C_carriedOf 2 = .ok (.iload_n 2, 1) := by decide +kernel
theorem dc_C_carriedOf_3 : decode bc_C_carriedOf 3 = .ok (.invokevirtual 133, 3) := by decide +kernel
theorem dc_C_carriedOf_6 : decode bc_C_carriedOf 6 = .ok (.lstore_n 3, 1) := by decide +kernel
theorem dc_C_carriedOf_7 : decode bc_C_carriedOf 7 = .ok (.lload_n 3, 1) := by decide +kernel
theorem dc_C_carriedOf_8 : decode bc_C_carriedOf 8 = .ok (.lconst 0, 1) := by decide +kernel
theorem dc_C_carriedOf_9 : decode bc_C_carriedOf 9 = .ok (.lcmp, 1) := by decide +kernel
theorem dc_C_carriedOf_10 : decode bc_C_carriedOf 10 = .ok (.ifCond .le 20, 3) := by decide +kernel
theorem dc_C_carriedOf_13 : decode bc_C_carriedOf 13 = .ok (.lload_n 3, 1) := by decide +kernel
theorem dc_C_carriedOf_14 : decode bc_C_carriedOf 14 = .ok (.aload_n 0, 1) := by decide +kernel
theorem dc_C_carriedOf_15 : decode bc_C_carriedOf 15 = .ok (.getfield 36, 3) := by decide +kernel
theorem dc_C_carriedOf_18 : decode bc_C_carriedOf 18 = .ok (.i2l, 1) := by decide +kernel
theorem dc_C_carriedOf_19 : decode bc_C_carriedOf 19 = .ok (.lmul, 1) := by decide +kernel
theorem dc_C_carriedOf_20 : decode bc_C_carriedOf 20 = .ok (.aload_n 0, 1) := by decide +kernel
theorem dc_C_carriedOf_21 : decode bc_C_carriedOf 21 = .ok (.getfield 40, 3) := by decide +kernel
theorem dc_C_carriedOf_24 : decode bc_C_carriedOf 24 = .ok (.i2l, 1) := by decide +kernel
theorem dc_C_carriedOf_25 : decode bc_C_carriedOf 25 = .ok (.invokestatic 176, 3) := by decide +kernel
theorem dc_C_carriedOf_28 : decode bc_C_carriedOf 28 = .ok (.lneg, 1) := by decide +kernel
theorem dc_C_carriedOf_29 : decode bc_C_carriedOf 29 = .ok (.lreturn, 1) := by decide +kernel
theorem dc_C_carriedOf_30 : decode bc_C_carriedOf 30 = .ok (.aload_n 0, 1) := by decide +kernel
theorem dc_C_carriedOf_31 : decode bc_C_carriedOf 31 = .ok (.aload_n 1, 1) := by decide +kernel
theorem dc_C_carriedOf_32 : decode bc_C_carriedOf 32 = .ok (.iload_n 2, 1) := by decide +kernel
theorem dc_C_carriedOf_33 : decode bc_C_carriedOf 33 = .ok (.invokevirtual 116, 3) := by decide +kernel
theorem dc_C_carriedOf_36 : decode bc_C_carriedOf 36 = .ok (.aload_n 1, 1) := by decide +kernel
theorem dc_C_carriedOf_37 : decode bc_C_carriedOf 37 = .ok (.getfield 103, 3) := by decide +kernel
theorem dc_C_carriedOf_40 : decode bc_C_carriedOf 40 = .ok (.iload_n 2, 1) := by decide +kernel
theorem dc_C_carriedOf_41 : decode bc_C_carriedOf 41 = .ok (.laload, 1) := by decide +kernel
theorem dc_C_carriedOf_42 : decode bc_C_carriedOf 42 = .ok (.ldc2_w 199, 3) := by decide +kernel
theorem dc_C_carriedOf_45 : decode bc_C_carriedOf 45 = .ok (.ldiv, 1) := by decide +kernel
theorem dc_C_carriedOf_46 : decode bc_C_carriedOf 46 = .ok (.invokestatic 201, 3) := by decide +kernel
theorem dc_C_carriedOf_49 : decode bc_C_carriedOf 49 = .ok (.lreturn, 1) := by decide +kernel
theorem dc_C_carryOver_0 : decode bc_C_carryOver 0 = .ok (.iconst 0, 1) := by decide +kernel
theorem dc_C_carryOver_1 : decode bc_C_carryOver 1 = .ok (.istore_n 3, 1) := by decide +kernel
theorem dc_C_carryOver_2 : decode bc_C_carryOver 2 = .ok (.iload_n 3, 1) := by decide +kernel
theorem dc_C_carryOver_3 : decode bc_C_carryOver 3 = .ok (.aload_n 0, 1) := by decide +kernel
theorem dc_C_carryOver_4 : decode bc_C_carryOver 4 = .ok (.getfield 55, 3) := by decide +kernel
theorem dc_C_carryOver_7 : decode bc_C_carryOver 7 = .ok (.if_icmp .ge 20, 3) := by decide +kernel
theorem dc_C_carryOver_10 : decode bc_C_carryOver 10 = .ok (.aload_n 2, 1) := by decide +kernel
theorem dc_C_carryOver_11 : decode bc_C_carryOver 11 = .ok (.iload_n 3, 1) := by decide +kernel
theorem dc_C_carryOver_12 : decode bc_C_carryOver 12 = .ok (.aload_n 0, 1) := by decide +kernel
theorem dc_C_carryOver_13 : decode bc_C_carryOver 13 = .ok (.aload_n 1, 1) := by decide +kernel
theorem dc_C_carryOver_14 : decode bc_C_carryOver 14 = .ok (.iload_n 3, 1) := by decide +kernel
theorem dc_C_carryOver_15 : decode bc_C_carryOver 15 = .ok (.invokevirtual 136, 3) := by decide +kernel
theorem dc_C_carryOver_18 : decode bc_C_carryOver 18 = .ok (.invokevirtual 204, 3) := by decide +kernel
theorem dc_C_carryOver_21 : decode bc_C_carryOver 21 = .ok (.iinc 3 1, 3) := by decide +kernel
theorem dc_C_carryOver_24 : decode bc_C_carryOver 24 = .ok (.goto (-22), 3) := by decide +kernel
theorem dc_C_carryOver_27 : decode bc_C_carryOver 27 = .ok (.return_, 1) := by decide +kernel
theorem dc_C_holdOf_0 : decode bc_C_holdOf 0 = .ok (.aload_n 0, 1) := by decide +kernel
theorem dc_C_holdOf_1 : decode bc_C_holdOf 1 = .ok (.getfield 32, 3) := by decide +kernel
theorem dc_C_holdOf_4 : decode bc_C_holdOf 4 = .ok (.iload_n 1, 1) := by decide +kernel
theorem dc_C_holdOf_5 : decode bc_C_holdOf 5 = .ok (.invokevirtual 155, 3) := by decide +kernel
theorem dc_C_holdOf_8 : decode bc_C_holdOf 8 = .ok (.aload_n 0, 1) := by decide +kernel
theorem dc_C_holdOf_9 : decode bc_C_holdOf 9 = .ok (.getfield 32, 3) := by decide +kernel
theorem dc_C_holdOf_12 : decode bc_C_holdOf 12 = .ok (.iload_n 2, 1) := by decide +kernel
theorem dc_C_holdOf_13 : decode bc_C_holdOf 13 = .ok (.invokevirtual 207, 3) := by decide +kernel
theorem dc_C_holdOf_16 : decode bc_C_holdOf 16 = .ok (.lreturn, 1) := by decide +kernel
theorem dc_C_isAboveCap_0 : decode bc_C_isAboveCap 0 = .ok (.lconst 0, 1) := by decide +kernel
theorem dc_C_isAboveCap_1 : decode bc_C_isAboveCap 1 = .ok (.lstore_n 2, 1) := by decide +kernel
theorem dc_C_isAboveCap_2 : decode bc_C_isAboveCap 2 = .ok (.lconst 0, 1) := by decide +kernel
theorem dc_C_isAboveCap_3 : decode bc_C_isAboveCap 3 = .ok (.lstore 4, 2) := by decide +kernel
theorem dc_C_isAboveCap_5 : decode bc_C_isAboveCap 5 = .ok (.iconst 0, 1) := by decide +kernel
theorem dc_C_isAboveCap_6 : decode bc_C_isAboveCap 6 = .ok (.istore 6, 2) := by decide +kernel
theorem dc_C_isAboveCap_8 : decode bc_C_isAboveCap 8 = .ok (.iload 6, 2) := by decide +kernel
theorem dc_C_isAboveCap_10 : decode bc_C_isAboveCap 10 = .ok (.aload_n 0, 1) := by decide +kernel
theorem dc_C_isAboveCap_11 : decode bc_C_isAboveCap 11 = .ok (.getfield 55, 3) := by decide +kernel
theorem dc_C_isAboveCap_14 : decode bc_C_isAboveCap 14 = .ok (.if_icmp .ge 61, 3) := by decide +kernel
theorem dc_C_isAboveCap_17 : decode bc_C_isAboveCap 17 = .ok (.aload_n 0, 1) := by decide +kernel
theorem dc_C_isAboveCap_18 : decode bc_C_isAboveCap 18 = .ok (.getfield 32, 3) := by decide +kernel
theorem dc_C_isAboveCap_21 : decode bc_C_isAboveCap 21 = .ok (.aload_n 0, 1) := by decide +kernel
theorem dc_C_isAboveCap_22 : decode bc_C_isAboveCap 22 = .ok (.getfield 15, 3) := by decide +kernel
theorem dc_C_isAboveCap_25 : decode bc_C_isAboveCap 25 = .ok (.iload 6, 2) := by decide +kernel
theorem dc_C_isAboveCap_27 : decode bc_C_isAboveCap 27 = .ok (.iaload, 1) := by decide +kernel
theorem dc_C_isAboveCap_28 : decode bc_C_isAboveCap 28 = .ok (.invokevirtual 207, 3) := by decide +kernel
theorem dc_C_isAboveCap_31 : decode bc_C_isAboveCap 31 = .ok (.lstore 7, 2) := by decide +kernel
theorem dc_C_isAboveCap_33 : decode bc_C_isAboveCap 33 = .ok (.lload_n 2, 1) := by decide +kernel
theorem dc_C_isAboveCap_34 : decode bc_C_isAboveCap 34 = .ok (.aload_n 1, 1) := by decide +kernel
theorem dc_C_isAboveCap_35 : decode bc_C_isAboveCap 35 = .ok (.getfield 75, 3) := by decide +kernel
theorem dc_C_isAboveCap_38 : decode bc_C_isAboveCap 38 = .ok (.iload 6, 2) := by decide +kernel
theorem dc_C_isAboveCap_40 : decode bc_C_isAboveCap 40 = .ok (.laload, 1) := by decide +kernel
theorem dc_C_isAboveCap_41 : decode bc_C_isAboveCap 41 = .ok (.lload 7, 2) := by decide +kernel
theorem dc_C_isAboveCap_43 : decode bc_C_isAboveCap 43 = .ok (.ldc2_w 46, 3) := by decide +kernel
theorem dc_C_isAboveCap_46 : decode bc_C_isAboveCap 46 = .ok (.ldiv, 1) := by decide +kernel
theorem dc_C_isAboveCap_47 : decode bc_C_isAboveCap 47 = .ok (.lmul, 1) := by decide +kernel
theorem dc_C_isAboveCap_48 : decode bc_C_isAboveCap 48 = .ok (.ladd, 1) := by decide +kernel
theorem dc_C_isAboveCap_49 : decode bc_C_isAboveCap 49 = .ok (.lstore_n 2, 1) := by decide +kernel
theorem dc_C_isAboveCap_50 : decode bc_C_isAboveCap 50 = .ok (.lload 4, 2) := by decide +kernel
theorem dc_C_isAboveCap_52 : decode bc_C_isAboveCap 52 = .ok (.aload_n 1, 1) := by decide +kernel
theorem dc_C_isAboveCap_53 : decode bc_C_isAboveCap 53 = .ok (.getfield 75, 3) := by decide +kernel
theorem dc_C_isAboveCap_56 : decode bc_C_isAboveCap 56 = .ok (.iload 6, 2) := by decide +kernel
theorem dc_C_isAboveCap_58 : decode bc_C_isAboveCap 58 = .ok (.laload, 1) := by decide +kernel
theorem dc_C_isAboveCap_59 : decode bc_C_isAboveCap 59 = .ok (.lload 7, 2) := by decide +kernel
theorem dc_C_isAboveCap_61 : decode bc_C_isAboveCap 61 = .ok (.ldc2_w 46, 3) := by decide +kernel
theorem dc_C_isAboveCap_64 : decode bc_C_isAboveCap 64 = .ok (.lrem, 1) := by decide +kernel
theorem dc_C_isAboveCap_65 : decode bc_C_isAboveCap 65 = .ok (.lmul, 1) := by decide +kernel
theorem dc_C_isAboveCap_66 : decode bc_C_isAboveCap 66 = .ok (.ladd, 1) := by decide +kernel
theorem dc_C_isAboveCap_67 : decode bc_C_isAboveCap 67 = .ok (.lstore 4, 2) := by decide +kernel
theorem dc_C_isAboveCap_69 : decode bc_C_isAboveCap 69 = .ok (.iinc 6 1, 3) := by decide +kernel
theorem dc_C_isAboveCap_72 : decode bc_C_isAboveCap 72 = .ok (.goto (-64), 3) := by decide +kernel
theorem dc_C_isAboveCap_75 : decode bc_C_isAboveCap 75 = .ok (.lload_n 2, 1) := by decide +kernel
theorem dc_C_isAboveCap_76 : decode bc_C_isAboveCap 76 = .ok (.lload 4, 2) := by decide +kernel
theorem dc_C_isAboveCap_78 : decode bc_C_isAboveCap 78 = .ok (.ldc2_w 46, 3) := by decide +kernel
theorem dc_C_isAboveCap_81 : decode bc_C_isAboveCap 81 = .ok (.ldiv, 1) := by decide +kernel
theorem dc_C_isAboveCap_82 : decode bc_C_isAboveCap 82 = .ok (.ladd, 1) := by decide +kernel
theorem dc_C_isAboveCap_83 : decode bc_C_isAboveCap 83 = .ok (.lstore_n 2, 1) := by decide +kernel
theorem dc_C_isAboveCap_84 : decode bc_C_isAboveCap 84 = .ok (.lload 4, 2) := by decide +kernel
theorem dc_C_isAboveCap_86 : decode bc_C_isAboveCap 86 = .ok (.ldc2_w 46, 3) := by decide +kernel
theorem dc_C_isAboveCap_89 : decode bc_C_isAboveCap 89 = .ok (.lrem, 1) := by decide +kernel
theorem dc_C_isAboveCap_90 : decode bc_C_isAboveCap 90 = .ok (.lstore 4, 2) := by decide +kernel
theorem dc_C_isAboveCap_92 : decode bc_C_isAboveCap 92 = .ok (.aload_n 1, 1) := by decide +kernel
theorem dc_C_isAboveCap_93 : decode bc_C_isAboveCap 93 = .ok (.invokevirtual 210, 3) := by decide +kernel
theorem dc_C_isAboveCap_96 : decode bc_C_isAboveCap 96 = .ok (.aload_n 1, 1) := by decide +kernel
theorem dc_C_isAboveCap_97 : decode bc_C_isAboveCap 97 = .ok (.getfield 152, 3) := by decide +kernel
theorem dc_C_isAboveCap_100 : decode bc_C_isAboveCap 100 = .ok (.i2l, 1) := by decide +kernel
theorem dc_C_isAboveCap_101 : decode bc_C_isAboveCap 101 = .ok (.lmul, 1) := by decide +kernel
theorem dc_C_isAboveCap_102 : decode bc_C_isAboveCap 102 = .ok (.ldc2_w 213, 3) := by decide +kernel
theorem dc_C_isAboveCap_105 : decode bc_C_isAboveCap 105 = .ok (.lmul, 1) := by decide +kernel
theorem dc_C_isAboveCap_106 : decode bc_C_isAboveCap 106 = .ok (.lstore 6, 2) := by decide +kernel
theorem dc_C_isAboveCap_108 : decode bc_C_isAboveCap 108 = .ok (.lload_n 2, 1) := by decide +kernel
theorem dc_C_isAboveCap_109 : decode bc_C_isAboveCap 109 = .ok (.lload 6, 2) := by decide +kernel
theorem dc_C_isAboveCap_111 : decode bc_C_isAboveCap 111 = .ok (.lcmp, 1) := by decide +kernel
theorem dc_C_isAboveCap_112 : decode bc_C_isAboveCap 112 = .ok (.ifCond .gt 17, 3) := by decide +kernel
theorem dc_C_isAboveCap_115 : decode bc_C_isAboveCap 115 = .ok (.lload_n 2, 1) := by decide +kernel
theorem dc_C_isAboveCap_116 : decode bc_C_isAboveCap 116 = .ok (.lload 6, 2) := by decide +kernel
theorem dc_C_isAboveCap_118 : decode bc_C_isAboveCap 118 = .ok (.lcmp, 1) := by decide +kernel
theorem dc_C_isAboveCap_119 : decode bc_C_isAboveCap 119 = .ok (.ifCond .ne 14, 3) := by decide +kernel
theorem dc_C_isAboveCap_122 : decode bc_C_isAboveCap 122 = .ok (.lload 4, 2) := by decide +kernel
theorem dc_C_isAboveCap_124 : decode bc_C_isAboveCap 124 = .ok (.lconst 0, 1) := by decide +kernel
theorem dc_C_isAboveCap_125 : decode bc_C_isAboveCap 125 = .ok (.lcmp, 1) := by decide +kernel
theorem dc_C_isAboveCap_126 : decode bc_C_isAboveCap 126 = .ok (.ifCond .le 7, 3) := by decide +kernel
theorem dc_C_isAboveCap_129 : decode bc_C_isAboveCap 129 = .ok (.iconst 1, 1) := by decide +kernel
theorem dc_C_isAboveCap_130 : decode bc_C_isAboveCap 130 = .ok (.goto 4, 3) := by decide +kernel
theorem dc_C_isAboveCap_133 : decode bc_C_isAboveCap 133 = .ok (.iconst 0, 1) := by decide +kernel
theorem dc_C_isAboveCap_134 : decode bc_C_isAboveCap 134 = .ok (.ireturn, 1) := by decide +kernel
theorem dc_C_isScarcer_0 : decode bc_C_isScarcer 0 = .ok (.aload_n 1, 1) := by decide +kernel
theorem dc_C_isScarcer_1 : decode bc_C_isScarcer 1 = .ok (.getfield 103, 3) := by decide +kernel
theorem dc_C_isScarcer_4 : decode bc_C_isScarcer 4 = .ok (.iload_n 3, 1) := by decide +kernel
theorem dc_C_isScarcer_5 : decode bc_C_isScarcer 5 = .ok (.laload, 1) := by decide +kernel
theorem dc_C_isScarcer_6 : decode bc_C_isScarcer 6 = .ok (.lstore 4, 2) := by decide +kernel
theorem dc_C_isScarcer_8 : decode bc_C_isScarcer 8 = .ok (.aload_n 2, 1) := by decide +kernel
theorem dc_C_isScarcer_9 : decode bc_C_isScarcer 9 = .ok (.getfield 103, 3) := by decide +kernel
theorem dc_C_isScarcer_12 : decode bc_C_isScarcer 12 = .ok (.iload_n 3, 1) := by decide +kernel
theorem dc_C_isScarcer_13 : decode bc_C_isScarcer 13 = .ok (.laload, 1) := by decide +kernel
theorem dc_C_isScarcer_14 : decode bc_C_isScarcer 14 = .ok (.lstore 6, 2) := by decide +kernel
theorem dc_C_isScarcer_16 : decode bc_C_isScarcer 16 = .ok (.lload 4, 2) := by decide +kernel
theorem dc_C_isScarcer_18 : decode bc_C_isScarcer 18 = .ok (.lconst 1, 1) := by decide +kernel
theorem dc_C_isScarcer_19 : decode bc_C_isScarcer 19 = .ok (.lcmp, 1) := by decide +kernel
theorem dc_C_isScarcer_20 : decode bc_C_isScarcer 20 = .ok (.ifCond .lt 10, 3) := by decide +kernel
theorem dc_C_isScarcer_23 : decode bc_C_isScarcer 23 = .ok (.lload 6, 2) := by decide +kernel
theorem dc_C_isScarcer_25 : decode bc_C_isScarcer 25 = .ok (.lconst 1, 1) := by decide +kernel
theorem dc_C_isScarcer_26 : decode bc_C_isScarcer 26 = .ok (.lcmp, 1) := by decide +kernel
theorem dc_C_isScarcer_27 : decode bc_C_isScarcer 27 = .ok (.ifCond .ge 5, 3) := by decide +kernel
theorem dc_C_isScarcer_30 : decode bc_C_isScarcer 30 = .ok (.iconst 0, 1) := by decide +kernel
theorem dc_C_isScarcer_31 : decode bc_C_isScarcer 31 = .ok (.ireturn, 1) := by decide +kernel
theorem dc_C_isScarcer_32 : decode bc_C_isScarcer 32 = .ok (.aload_n 0, 1) := by decide +kernel
theorem dc_C_isScarcer_33 : decode bc_C_isScarcer 33 = .ok (.aload_n 1, 1) := by decide +kernel
theorem dc_C_isScarcer_34 : decode bc_C_isScarcer 34 = .ok (.iload_n 3, 1) := by decide +kernel
theorem dc_C_isScarcer_35 : decode bc_C_isScarcer 35 = .ok (.invokevirtual 116, 3) := by decide +kernel
theorem dc_C_isScarcer_38 : decode bc_C_isScarcer 38 = .ok (.lstore 8, 2) := by decide +kernel
theorem dc_C_isScarcer_40 : decode bc_C_isScarcer 40 = .ok (.aload_n 0, 1) := by decide +kernel
theorem dc_C_isScarcer_41 : decode bc_C_isScarcer 41 = .ok (.aload_n 2, 1) := by decide +kernel
theorem dc_C_isScarcer_42 : decode bc_C_isScarcer 42 = .ok (.iload_n 3, 1) := by decide +kernel
theorem dc_C_isScarcer_43 : decode bc_C_isScarcer 43 = .ok (.invokevirtual 116, 3) := by decide +kernel
theorem dc_C_isScarcer_46 : decode bc_C_isScarcer 46 = .ok (.lstore 10, 2) := by decide +kernel
theorem dc_C_isScarcer_48 : decode bc_C_isScarcer 48 = .ok (.lload 8, 2) := by decide +kernel
theorem dc_C_isScarcer_50 : decode bc_C_isScarcer 50 = .ok (.lload 4, 2) := by decide +kernel
theorem dc_C_isScarcer_52 : decode bc_C_isScarcer 52 = .ok (.invokestatic 215, 3) := by decide +kernel
theorem dc_C_isScarcer_55 : decode bc_C_isScarcer 55 = .ok (.lstore 12, 2) := by decide +kernel
theorem dc_C_isScarcer_57 : decode bc_C_isScarcer 57 = .ok (.lload 10, 2) := by decide +kernel
theorem dc_C_isScarcer_59 : decode bc_C_isScarcer 59 = .ok (.lload 6, 2) := by decide +kernel
theorem dc_C_isScarcer_61 : decode bc_C_isScarcer 61 = .ok (.invokestatic 215, 3) := by decide +kernel
theorem dc_C_isScarcer_64 : decode bc_C_isScarcer 64 = .ok (.lstore 14, 2) := by decide +kernel
theorem dc_C_isScarcer_66 : decode bc_C_isScarcer 66 = .ok (.lload 12, 2) := by decide +kernel
theorem dc_C_isScarcer_68 : decode bc_C_isScarcer 68 = .ok (.lload 14, 2) := by decide +kernel
theorem dc_C_isScarcer_70 : decode bc_C_isScarcer 70 = .ok (.lcmp, 1) := by decide +kernel
theorem dc_C_isScarcer_71 : decode bc_C_isScarcer 71 = .ok (.ifCond .eq 17, 3) := by decide +kernel
theorem dc_C_isScarcer_74 : decode bc_C_isScarcer 74 = .ok (.lload 12, 2) := by decide +kernel
theorem dc_C_isScarcer_76 : decode bc_C_isScarcer 76 = .ok (.lload 14, 2) := by decide +kernel
theorem dc_C_isScarcer_78 : decode bc_C_isScarcer 78 = .ok (.lcmp, 1) := by decide +kernel
theorem dc_C_isScarcer_79 : decode bc_C_isScarcer 79 = .ok (.ifCond .ge 7, 3) := by decide +kernel
theorem dc_C_isScarcer_82 : decode bc_C_isScarcer 82 = .ok (.iconst 1, 1) := by decide +kernel
theorem dc_C_isScarcer_83 : decode bc_C_isScarcer 83 = .ok (.goto 4, 3) := by decide +kernel
theorem dc_C_isScarcer_86 : decode bc_C_isScarcer 86 = .ok (.iconst 0, 1) := by decide +kernel
theorem dc_C_isScarcer_87 : decode bc_C_isScarcer 87 = .ok (.ireturn, 1) := by decide +kernel
theorem dc_C_isScarcer_88 : decode bc_C_isScarcer 88 = .ok (.lload 8, 2) := by decide +kernel
theorem dc_C_isScarcer_90 : decode bc_C_isScarcer 90 = .ok (.lload 4, 2) := by decide +kernel
theorem dc_C_isScarcer_92 : decode bc_C_isScarcer 92 = .ok (.invokestatic 218, 3) := by decide +kernel
theorem dc_C_isScarcer_95 : decode bc_C_isScarcer 95 = .ok (.lload 6, 2) := by decide +kernel
theorem dc_C_isScarcer_97 : decode bc_C_isScarcer 97 = .ok (.lmul, 1) := by decide +kernel
theorem dc_C_isScarcer_98 : decode bc_C_isScarcer 98 = .ok (.lload 10, 2) := by decide +kernel
theorem dc_C_isScarcer_100 : decode bc_C_isScarcer 100 = .ok (.lload 6, 2) := by decide +kernel
theorem dc_C_isScarcer_102 : decode bc_C_isScarcer 102 = .ok (.invokestatic 218, 3) := by decide +kernel
theorem dc_C_isScarcer_105 : decode bc_C_isScarcer 105 = .ok (.lload 4, 2) := by decide +kernel
theorem dc_C_isScarcer_107 : decode bc_C_isScarcer 107 = .ok (.lmul, 1) := by decide +kernel
theorem dc_C_isScarcer_108 : decode bc_C_isScarcer 108 = .ok (.lcmp, 1) := by decide +kernel
theorem dc_C_isScarcer_109 : decode bc_C_isScarcer 109 = .ok (.ifCond .ge 7, 3) := by decide +kernel
theorem dc_C_isScarcer_112 : decode bc_C_isScarcer 112 = .ok (.iconst 1, 1) := by decide +kernel
theorem dc_C_isScarcer_113 : decode bc_C_isScarcer 113 = .ok (.goto 4, 3) := by decide +kernel
theorem dc_C_isScarcer_116 : decode bc_C_isScarcer 116 = .ok (.iconst 0, 1) := by decide +kernel
theorem dc_C_isScarcer_117 : decode bc_C_isScarcer 117 = .ok (.ireturn, 1) := by decide +kernel
theorem dc_J_floorDiv_0 : decode bc_J_floorDiv 0 = .ok (.lload_n 0, 1) := by decide +kernel
theorem dc_J_floorDiv_1 : decode bc_J_floorDiv 1 = .ok (.lload_n 2, 1) := by decide +kernel
theorem dc_J_floorDiv_2 : decode bc_J_floorDiv 2 = .ok (.ldiv, 1) := by decide +kernel
theorem dc_J_floorDiv_3 : decode bc_J_floorDiv 3 = .ok (.lstore 4, 2) := by decide +kernel
theorem dc_J_floorDiv_5 : decode bc_J_floorDiv 5 = .ok (.lload_n 0, 1) := by decide +kernel
theorem dc_J_floorDiv_6 : decode bc_J_floorDiv 6 = .ok (.lload_n 2, 1) := by decide +kernel
theorem dc_J_floorDiv_7 : decode bc_J_floorDiv 7 = .ok (.lxor, 1) := by decide +kernel
theorem dc_J_floorDiv_8 : decode bc_J_floorDiv 8 = .ok (.lconst 0, 1) := by decide +kernel
theorem dc_J_floorDiv_9 : decode bc_J_floorDiv 9 = .ok (.lcmp, 1) := by decide +kernel
theorem dc_J_floorDiv_10 : decode bc_J_floorDiv 10 = .ok (.ifCond .ge 17, 3) := by decide +kernel
theorem dc_J_floorDiv_13 : decode bc_J_floorDiv 13 = .ok (.lload 4, 2) := by decide +kernel
theorem dc_J_floorDiv_15 : decode bc_J_floorDiv 15 = .ok (.lload_n 2, 1) := by decide +kernel
theorem dc_J_floorDiv_16 : decode bc_J_floorDiv 16 = .ok (.lmul, 1) := by decide +kernel
theorem dc_J_floorDiv_17 : decode bc_J_floorDiv 17 = .ok (.lload_n 0, 1) := by decide +kernel
theorem dc_J_floorDiv_18 : decode bc_J_floorDiv 18 = .ok (.lcmp, 1) := by decide +kernel
theorem dc_J_floorDiv_19 : decode bc_J_floorDiv 19 = .ok (.ifCond .eq 8, 3) := by decide +kernel
theorem dc_J_floorDiv_22 : decode bc_J_floorDiv 22 = .ok (.lload 4, 2) := by decide +kernel
theorem dc_J_floorDiv_24 : decode bc_J_floorDiv 24 = .ok (.lconst 1, 1) := by decide +kernel
theorem dc_J_floorDiv_25 : decode bc_J_floorDiv 25 = .ok (.lsub, 1) := by decide +kernel
theorem dc_J_floorDiv_26 : decode bc_J_floorDiv 26 = .ok (.lreturn, 1) := by decide +kernel
theorem dc_J_floorDiv_27 : decode bc_J_floorDiv 27 = .ok (.lload 4, 2) := by decide +kernel
theorem dc_J_floorDiv_29 : decode bc_J_floorDiv 29 = .ok (.lreturn, 1) := by decide +kernel
theorem dc_J_floorMod_0 : decode bc_J_floorMod 0 = .ok (.lload_n 0, 1) := by decide +kernel
theorem dc_J_floorMod_1 : decode bc_J_floorMod 1 = .ok (.lload_n 2, 1) := by decide +kernel
theorem dc_J_floorMod_2 : decode bc_J_floorMod 2 = .ok (.lrem, 1) := by decide +kernel
theorem dc_J_floorMod_3 : decode bc_J_floorMod 3 = .ok (.lstore 4, 2) := by decide +kernel
theorem dc_J_floorMod_5 : decode bc_J_floorMod 5 = .ok (.lload_n 0, 1) := by decide +kernel
theorem dc_J_floorMod_6 : decode bc_J_floorMod 6 = .ok (.lload_n 2, 1) := by decide +kernel
theorem dc_J_floorMod_7 : decode bc_J_floorMod 7 = .ok (.lxor, 1) := by decide +kernel
theorem dc_J_floorMod_8 : decode bc_J_floorMod 8 = .ok (.lconst 0, 1) := by decide +kernel
theorem dc_J_floorMod_9 : decode bc_J_floorMod 9 = .ok (.lcmp, 1) := by decide +kernel
theorem dc_J_floorMod_10 : decode bc_J_floorMod 10 = .ok (.ifCond .ge 15, 3) := by decide +kernel
theorem dc_J_floorMod_13 : decode bc_J_floorMod 13 = .ok (.lload 4, 2) := by decide +kernel
theorem dc_J_floorMod_15 : decode bc_J_floorMod 15 = .ok (.lconst 0, 1) := by decide +kernel
theorem dc_J_floorMod_16 : decode bc_J_floorMod 16 = .ok (.lcmp, 1) := by decide +kernel
theorem dc_J_floorMod_17 : decode bc_J_floorMod 17 = .ok (.ifCond .eq 8, 3) := by decide +kernel
theorem dc_J_floorMod_20 : decode bc_J_floorMod 20 = .ok (.lload 4, 2) := by decide +kernel
theorem dc_J_floorMod_22 : decode bc_J_floorMod 22 = .ok (.lload_n 2, 1) := by decide +kernel
theorem dc_J_floorMod_23 : decode bc_J_floorMod 23 = .ok (.ladd, 1) := by decide +kernel
theorem dc_J_floorMod_24 : decode bc_J_floorMod 24 = .ok (.lreturn, 1) := by decide +kernel
theorem dc_J_floorMod_25 : decode bc_J_floorMod 25 = .ok (.lload 4, 2) := by decide +kernel
theorem dc_J_floorMod_27 : decode bc_J_floorMod 27 = .ok (.lreturn, 1) := by decide +kernel
end
section
theorem dc_M_init_0 : decode bc_M_init 0 = .ok (.aload_n 0, 1) := by decide +kernel
theorem dc_M_init_1 : decode bc_M_init 1 = .ok (.invokespecial 1, 3) := by decide +kernel
theorem dc_M_init_4 : decode bc_M_init 4 = .ok (.aload_n 0, 1) := by decide +kernel
theorem dc_M_init_5 : decode bc_M_init 5 = .ok (.bipush 8, 2) := by decide +kernel
theorem dc_M_init_7 : decode bc_M_init 7 = .ok (.newarray .long, 2) := by decide +kernel
theorem dc_M_init_9 : decode bc_M_init 9 = .ok (.putfield 7, 3) := by decide +kernel
theorem dc_M_init_12 : decode bc_M_init 12 = .ok (.aload_n 0, 1) := by decide +kernel
theorem dc_M_init_13 : decode bc_M_init 13 = .ok (.bipush 8, 2) := by decide +kernel
theorem dc_M_init_15 : decode bc_M_init 15 = .ok (.newarray .long, 2) := by decide +kernel
theorem dc_M_init_17 : decode bc_M_init 17 = .ok (.putfield 13, 3) := by decide +kernel
theorem dc_M_init_20 : decode bc_M_init 20 = .ok (.aload_n 0, 1) := by decide +kernel
theorem dc_M_init_21 : decode bc_M_init 21 = .ok (.bipush 8, 2) := by decide +kernel
theorem dc_M_init_23 : decode bc_M_init 23 = .ok (.newarray .int, 2) := by decide +kernel
theorem dc_M_init_25 : decode bc_M_init 25 = .ok (.putfield 16, 3) := by decide +kernel
theorem dc_M_init_28 : decode bc_M_init 28 = .ok (.aload_n 0, 1) := by decide +kernel
theorem dc_M_init_29 : decode bc_M_init 29 = .ok (.bipush 8, 2) := by decide +kernel
theorem dc_M_init_31 : decode bc_M_init 31 = .ok (.newarray .boolean, 2) := by decide +kernel
theorem dc_M_init_33 : decode bc_M_init 33 = .ok (.putfield 20, 3) := by decide +kernel
theorem dc_M_init_36 : decode bc_M_init 36 = .ok (.aload_n 0, 1) := by decide +kernel
theorem dc_M_init_37 : decode bc_M_init 37 = .ok (.bipush 8, 2) := by decide +kernel
theorem dc_M_init_39 : decode bc_M_init 39 = .ok (.newarray .int, 2) := by decide +kernel
theorem dc_M_init_41 : decode bc_M_init 41 = .ok (.putfield 24, 3) := by decide +kernel
theorem dc_M_init_44 : decode bc_M_init 44 = .ok (.aload_n 0, 1) := by decide +kernel
theorem dc_M_init_45 : decode bc_M_init 45 = .ok (.bipush 8, 2) := by decide +kernel
theorem dc_M_init_47 : decode bc_M_init 47 = .ok (.newarray .long, 2) := by decide +kernel
theorem dc_M_init_49 : decode bc_M_init 49 = .ok (.putfield 27, 3) := by decide +kernel
theorem dc_M_init_52 : decode bc_M_init 52 = .ok (.aload_n 0, 1) := by decide +kernel
theorem dc_M_init_53 : decode bc_M_init 53 = .ok (.bipush 8, 2) := by decide +kernel
theorem dc_M_init_55 : decode bc_M_init 55 = .ok (.newarray .long, 2) := by decide +kernel
theorem dc_M_init_57 : decode bc_M_init 57 = .ok (.putfield 30, 3) := by decide +kernel
theorem dc_M_init_60 : decode bc_M_init 60 = .ok (.aload_n 0, 1) := by decide +kernel
theorem dc_M_init_61 : decode bc_M_init 61 = .ok (.bipush 8, 2) := by decide +kernel
theorem dc_M_init_63 : decode bc_M_init 63 = .ok (.newarray .long, 2) := by decide +kernel
theorem dc_M_init_65 : decode bc_M_init 65 = .ok (.putfield 33, 3) := by decide +kernel
theorem dc_M_init_68 : decode bc_M_init 68 = .ok (.aload_n 0, 1) := by decide +kernel
theorem dc_M_init_69 : decode bc_M_init 69 = .ok (.bipush 12, 2) := by decide +kernel
theorem dc_M_init_71 : decode bc_M_init 71 = .ok (.newarray .int, 2) := by decide +kernel
theorem dc_M_init_73 : decode bc_M_init 73 = .ok (.putfield 36, 3) := by decide +kernel
theorem dc_M_init_76 : decode bc_M_init 76 = .ok (.aload_n 0, 1) := by decide +kernel
theorem dc_M_init_77 : decode bc_M_init 77 = .ok (.bipush 12, 2) := by decide +kernel
theorem dc_M_init_79 : decode bc_M_init 79 = .ok (.newarray .int, 2) := by decide +kernel
theorem dc_M_init_81 : decode bc_M_init 81 = .ok (.putfield 39, 3) := by decide +kernel
theorem dc_M_init_84 : decode bc_M_init 84 = .ok (.aload_n 0, 1) := by decide +kernel
theorem dc_M_init_85 : decode bc_M_init 85 = .ok (.bipush 96, 2) := by decide +kernel
theorem dc_M_init_87 : decode bc_M_init 87 = .ok (.newarray .long, 2) := by decide +kernel
theorem dc_M_init_89 : decode bc_M_init 89 = .ok (.putfield 42, 3) := by decide +kernel
theorem dc_M_init_92 : decode bc_M_init 92 = .ok (.aload_n 0, 1) := by decide +kernel
theorem dc_M_init_93 : decode bc_M_init 93 = .ok (.bipush 96, 2) := by decide +kernel
theorem dc_M_init_95 : decode bc_M_init 95 = .ok (.newarray .long, 2) := by decide +kernel
theorem dc_M_init_97 : decode bc_M_init 97 = .ok (.putfield 45, 3) := by decide +kernel
theorem dc_M_init_100 : decode bc_M_init 100 = .ok (.aload_n 0, 1) := by decide +kernel
theorem dc_M_init_101 : decode bc_M_init 101 = .ok (.bipush 12, 2) := by decide +kernel
theorem dc_M_init_103 : decode bc_M_init 103 = .ok (.newarray .long, 2) := by decide +kernel
theorem dc_M_init_105 : decode bc_M_init 105 = .ok (.putfield 48, 3) := by decide +kernel
theorem dc_M_init_108 : decode bc_M_init 108 = .ok (.aload_n 0, 1) := by decide +kernel
theorem dc_M_init_109 : decode bc_M_init 109 = .ok (.sipush 200, 3) := by decide +kernel
theorem dc_M_init_112 : decode bc_M_init 112 = .ok (.newarray .int, 2) := by decide +kernel
theorem dc_M_init_114 : decode bc_M_init 114 = .ok (.putfield 51, 3) := by decide +kernel
theorem dc_M_init_117 : decode bc_M_init 117 = .ok (.aload_n 0, 1) := by decide +kernel
theorem dc_M_init_118 : decode bc_M_init 118 = .ok (.sipush 200, 3) := by decide +kernel
theorem dc_M_init_121 : decode bc_M_init 121 = .ok (.newarray .long, 2) := by decide +kernel
theorem dc_M_init_123 : decode bc_M_init 123 = .ok (.putfield 54, 3) := by decide +kernel
theorem dc_M_init_126 : decode bc_M_init 126 = .ok (.aload_n 0, 1) := by decide +kernel
theorem dc_M_init_127 : decode bc_M_init 127 = .ok (.sipush 200, 3) := by decide +kernel
theorem dc_M_init_130 : decode bc_M_init 130 = .ok (.newarray .int, 2) := by decide +kernel
theorem dc_M_init_132 : decode bc_M_init 132 = .ok (.putfield 57, 3) := by decide +kernel
theorem dc_M_init_135 : decode bc_M_init 135 = .ok (.aload_n 0, 1) := by decide +kernel
theorem dc_M_init_136 : decode bc_M_init 136 = .ok (.iconst 1, 1) := by decide +kernel
theorem dc_M_init_137 : decode bc_M_init 137 = .ok (.putfield 60, 3) := by decide +kernel
theorem dc_M_init_140 : decode bc_M_init 140 = .ok (.aload_n 0, 1) := by decide +kernel
theorem dc_M_init_141 : decode bc_M_init 141 = .ok (.iconst 1, 1) := by decide +kernel
theorem dc_M_init_142 : decode bc_M_init 142 = .ok (.putfield 64, 3) := by decide +kernel
theorem dc_M_init_145 : decode bc_M_init 145 = .ok (.aload_n 0, 1) := by decide +kernel
theorem dc_M_init_146 : decode bc_M_init 146 = .ok (.bipush 100, 2) := by decide +kernel
theorem dc_M_init_148 : decode bc_M_init 148 = .ok (.newarray .int, 2) := by decide +kernel
theorem dc_M_init_150 : decode bc_M_init 150 = .ok (.putfield 67, 3) := by decide +kernel
theorem dc_M_init_153 : decode bc_M_init 153 = .ok (.aload_n 0, 1) := by decide +kernel
theorem dc_M_init_154 : decode bc_M_init 154 = .ok (.bipush 10, 2) := by decide +kernel
theorem dc_M_init_156 : decode bc_M_init 156 = .ok (.newarray .long, 2) := by decide +kernel
theorem dc_M_init_158 : decode bc_M_init 158 = .ok (.putfield 70, 3) := by decide +kernel
theorem dc_M_init_161 : decode bc_M_init 161 = .ok (.aload_n 0, 1) := by decide +kernel
theorem dc_M_init_162 : decode bc_M_init 162 = .ok (.bipush 10, 2) := by decide +kernel
theorem dc_M_init_164 : decode bc_M_init 164 = .ok (.newarray .long, 2) := by decide +kernel
theorem dc_M_init_166 : decode bc_M_init 166 = .ok (.putfield 73, 3) := by decide +kernel
theorem dc_M_init_169 : decode bc_M_init 169 = .ok (.aload_n 0, 1) := by decide +kernel
theorem dc_M_init_170 : decode bc_M_init 170 = .ok (.bipush 10, 2) := by decide +kernel
theorem dc_M_init_172 : decode bc_M_init 172 = .ok (.newarray .long, 2) := by decide +kernel
theorem dc_M_init_174 : decode bc_M_init 174 = .ok (.putfield 76, 3) := by decide +kernel
theorem dc_M_init_177 : decode bc_M_init 177 = .ok (.aload_n 0, 1) := by decide +kernel
theorem dc_M_init_178 : decode bc_M_init 178 = .ok (.iconst 0, 1) := by decide +kernel
theorem dc_M_init_179 : decode bc_M_init 179 = .ok (.putfield 79, 3) := by decide +kernel
theorem dc_M_init_182 : decode bc_M_init 182 = .ok (.return_, 1) := by decide +kernel
theorem dc_M_in_0 : decode bc_M_in 0 = .ok (.lload_n 0, 1) := by decide +kernel
theorem dc_M_in_1 : decode bc_M_in 1 = .ok (.lload_n 2, 1) := by decide +kernel
theorem dc_M_in_2 : decode bc_M_in 2 = .ok (.lcmp, 1) := by decide +kernel
theorem dc_M_in_3 : decode bc_M_in 3 = .ok (.ifCond .lt 14, 3) := by decide +kernel
theorem dc_M_in_6 : decode bc_M_in 6 = .ok (.lload_n 0, 1) := by decide +kernel
theorem dc_M_in_7 : decode bc_M_in 7 = .ok (.lload 4, 2) := by decide +kernel
theorem dc_M_in_9 : decode bc_M_in 9 = .ok (.lcmp, 1) := by decide +kernel
theorem dc_M_in_10 : decode bc_M_in 10 = .ok (.ifCond .gt 7, 3) := by decide +kernel
theorem dc_M_in_13 : decode bc_M_in 13 = .ok (.iconst 1, 1) := by decide +kernel
theorem dc_M_in_14 : decode bc_M_in 14 = .ok (.goto 4, 3) := by decide +kernel
theorem dc_M_in_17 : decode bc_M_in 17 = .ok (.iconst 0, 1) := by decide +kernel
theorem dc_M_in_18 : decode bc_M_in 18 = .ok (.ireturn, 1) := by decide +kernel
theorem dc_M_isStock_0 : decode bc_M_isStock 0 = .ok (.iload_n 1, 1) := by decide +kernel
theorem dc_M_isStock_1 : decode bc_M_isStock 1 = .ok (.i2l, 1) := by decide +kernel
theorem dc_M_isStock_2 : decode bc_M_isStock 2 = .ok (.lconst 0, 1) := by decide +kernel
theorem dc_M_isStock_3 : decode bc_M_isStock 3 = .ok (.aload_n 0, 1) := by decide +kernel
theorem dc_M_isStock_4 : decode bc_M_isStock 4 = .ok (.getfield 79, 3) := by decide +kernel
theorem dc_M_isStock_7 : decode bc_M_isStock 7 = .ok (.i2l, 1) := by decide +kernel
theorem dc_M_isStock_8 : decode bc_M_isStock 8 = .ok (.lconst 1, 1) := by decide +kernel
theorem dc_M_isStock_9 : decode bc_M_isStock 9 = .ok (.lsub, 1) := by decide +kernel
theorem dc_M_isStock_10 : decode bc_M_isStock 10 = .ok (.invokestatic 82, 3) := by decide +kernel
theorem dc_M_isStock_13 : decode bc_M_isStock 13 = .ok (.ireturn, 1) := by decide +kernel
theorem dc_M_isHolder_0 : decode bc_M_isHolder 0 = .ok (.iload_n 1, 1) := by decide +kernel
theorem dc_M_isHolder_1 : decode bc_M_isHolder 1 = .ok (.i2l, 1) := by decide +kernel
theorem dc_M_isHolder_2 : decode bc_M_isHolder 2 = .ok (.lconst 0, 1) := by decide +kernel
theorem dc_M_isHolder_3 : decode bc_M_isHolder 3 = .ok (.aload_n 0, 1) := by decide +kernel
theorem dc_M_isHolder_4 : decode bc_M_isHolder 4 = .ok (.getfield 86, 3) := by decide +kernel
theorem dc_M_isHolder_7 : decode bc_M_isHolder 7 = .ok (.i2l, 1) := by decide +kernel
theorem dc_M_isHolder_8 : decode bc_M_isHolder 8 = .ok (.lconst 1, 1) := by decide +kernel
theorem dc_M_isHolder_9 : decode bc_M_isHolder 9 = .ok (.lsub, 1) := by decide +kernel
theorem dc_M_isHolder_10 : decode bc_M_isHolder 10 = .ok (.invokestatic 82, 3) := by decide +kernel
theorem dc_M_isHolder_13 : decode bc_M_isHolder 13 = .ok (.ireturn, 1) := by decide +kernel
theorem dc_M_isOwner_0 : decode bc_M_isOwner 0 = .ok (.iload_n 0, 1) := by decide +kernel
theorem dc_M_isOwner_1 : decode bc_M_isOwner 1 = .ok (.i2l, 1) := by decide +kernel
theorem dc_M_isOwner_2 : decode bc_M_isOwner 2 = .ok (.lconst 0, 1) := by decide +kernel
theorem dc_M_isOwner_3 : decode bc_M_isOwner 3 = .ok (.ldc2_w 89, 3) := by decide +kernel
theorem dc_M_isOwner_6 : decode bc_M_isOwner 6 = .ok (.invokestatic 82, 3) := by decide +kernel
theorem dc_M_isOwner_9 : decode bc_M_isOwner 9 = .ok (.ireturn, 1) := by decide +kernel
theorem dc_M_stock_0 : decode bc_M_stock 0 = .ok (.aload_n 0, 1) := by decide +kernel
theorem dc_M_stock_1 : decode bc_M_stock 1 = .ok (.getfield 79, 3) := by decide +kernel
theorem dc_M_stock_4 : decode bc_M_stock 4 = .ok (.bipush 8, 2) := by decide +kernel
theorem dc_M_stock_6 : decode bc_M_stock 6 = .ok (.if_icmp .eq 14, 3) := by decide +kernel
theorem dc_M_stock_9 : decode bc_M_stock 9 = .ok (.lload_n 1, 1) := by decide +kernel
theorem dc_M_stock_10 : decode bc_M_stock 10 = .ok (.lconst 0, 1) := by decide +kernel
theorem dc_M_stock_11 : decode bc_M_stock 11 = .ok (.ldc2_w 91, 3) := by decide +kernel
theorem dc_M_stock_14 : decode bc_M_stock 14 = .ok (.invokestatic 82, 3) := by decide +kernel
theorem dc_M_stock_17 : decode bc_M_stock 17 = .ok (.ifCond .ne 5, 3) := by decide +kernel
theorem dc_M_stock_20 : decode bc_M_stock 20 = .ok (.iconst (-1), 1) := by decide +kernel
theorem dc_M_stock_21 : decode bc_M_stock 21 = .ok (.ireturn, 1) := by decide +kernel
theorem dc_M_stock_22 : decode bc_M_stock 22 = .ok (.aload_n 0, 1) := by decide +kernel
theorem dc_M_stock_23 : decode bc_M_stock 23 = .ok (.getfield 7, 3) := by decide +kernel
theorem dc_M_stock_26 : decode bc_M_stock 26 = .ok (.aload_n 0, 1) := by decide +kernel
theorem dc_M_stock_27 : decode bc_M_stock 27 = .ok (.getfield 79, 3) := by decide +kernel
theorem dc_M_stock_30 : decode bc_M_stock 30 = .ok (.lload_n 1, 1) := by decide +kernel
theorem dc_M_stock_31 : decode bc_M_stock 31 = .ok (.lastore, 1) := by decide +kernel
theorem dc_M_stock_32 : decode bc_M_stock 32 = .ok (.aload_n 0, 1) := by decide +kernel
theorem dc_M_stock_33 : decode bc_M_stock 33 = .ok (.getfield 16, 3) := by decide +kernel
theorem dc_M_stock_36 : decode bc_M_stock 36 = .ok (.aload_n 0, 1) := by decide +kernel
theorem dc_M_stock_37 : decode bc_M_stock 37 = .ok (.getfield 79, 3) := by decide +kernel
theorem dc_M_stock_40 : decode bc_M_stock 40 = .ok (.iconst (-1), 1) := by decide +kernel
theorem dc_M_stock_41 : decode bc_M_stock 41 = .ok (.iastore, 1) := by decide +kernel
theorem dc_M_stock_42 : decode bc_M_stock 42 = .ok (.aload_n 0, 1) := by decide +kernel
theorem dc_M_stock_43 : decode bc_M_stock 43 = .ok (.getfield 24, 3) := by decide +kernel
theorem dc_M_stock_46 : decode bc_M_stock 46 = .ok (.aload_n 0, 1) := by decide +kernel
theorem dc_M_stock_47 : decode bc_M_stock 47 = .ok (.getfield 79, 3) := by decide +kernel
theorem dc_M_stock_50 : decode bc_M_stock 50 = .ok (.bipush 100, 2) := by decide +kernel
theorem dc_M_stock_52 : decode bc_M_stock 52 = .ok (.iastore, 1) := by decide +kernel
theorem dc_M_stock_53 : decode bc_M_stock 53 = .ok (.aload_n 0, 1) := by decide +kernel
theorem dc_M_stock_54 : decode bc_M_stock 54 = .ok (.dup, 1) := by decide +kernel
theorem dc_M_stock_55 : decode bc_M_stock 55 = .ok (.getfield 79, 3) := by decide +kernel
theorem dc_M_stock_58 : decode bc_M_stock 58 = .ok (.iconst 1, 1) := by decide +kernel
theorem dc_M_stock_59 : decode bc_M_stock 59 = .ok (.iadd, 1) := by decide +kernel
theorem dc_M_stock_60 : decode bc_M_stock 60 = .ok (.putfield 79, 3) := by decide +kernel
theorem dc_M_stock_63 : decode bc_M_stock 63 = .ok (.aload_n 0, 1) := by decide +kernel
theorem dc_M_stock_64 : decode bc_M_stock 64 = .ok (.getfield 79, 3) := by decide +kernel
theorem dc_M_stock_67 : decode bc_M_stock 67 = .ok (.iconst 1, 1) := by decide +kernel
theorem dc_M_stock_68 : decode bc_M_stock 68 = .ok (.isub, 1) := by decide +kernel
theorem dc_M_stock_69 : decode bc_M_stock 69 = .ok (.ireturn, 1) := by decide +kernel
theorem dc_M_holder_0 : decode bc_M_holder 0 = .ok (.aload_n 0, 1) := by decide +kernel
theorem dc_M_holder_1 : decode bc_M_holder 1 = .ok (.getfield 86, 3) := by decide +kernel
theorem dc_M_holder_4 : decode bc_M_holder 4 = .ok (.bipush 12, 2) := by decide +kernel
theorem dc_M_holder_6 : decode bc_M_holder 6 = .ok (.if_icmp .eq 10, 3) := by decide +kernel
theorem dc_M_holder_9 : decode bc_M_holder 9 = .ok (.iload_n 1, 1) := by decide +kernel
theorem dc_M_holder_10 : decode bc_M_holder 10 = .ok (.invokestatic 93, 3) := by decide +kernel
theorem dc_M_holder_13 : decode bc_M_holder 13 = .ok (.ifCond .ne 5, 3) := by decide +kernel
theorem dc_M_holder_16 : decode bc_M_holder 16 = .ok (.iconst (-1), 1) := by decide +kernel
theorem dc_M_holder_17 : decode bc_M_holder 17 = .ok (.ireturn, 1) := by decide +kernel
theorem dc_M_holder_18 : decode bc_M_holder 18 = .ok (.aload_n 0, 1) := by decide +kernel
theorem dc_M_holder_19 : decode bc_M_holder 19 = .ok (.getfield 36, 3) := by decide +kernel
theorem dc_M_holder_22 : decode bc_M_holder 22 = .ok (.aload_n 0, 1) := by decide +kernel
theorem dc_M_holder_23 : decode bc_M_holder 23 = .ok (.getfield 86, 3) := by decide +kernel
theorem dc_M_holder_26 : decode bc_M_holder 26 = .ok (.iload_n 1, 1) := by decide +kernel
theorem dc_M_holder_27 : decode bc_M_holder 27 = .ok (.iastore, 1) := by decide +kernel
theorem dc_M_holder_28 : decode bc_M_holder 28 = .ok (.aload_n 0, 1) := by decide +kernel
theorem dc_M_holder_29 : decode bc_M_holder 29 = .ok (.getfield 39, 3) := by decide +kernel
theorem dc_M_holder_32 : decode bc_M_holder 32 = .ok (.aload_n 0, 1) := by decide +kernel
theorem dc_M_holder_33 : decode bc_M_holder 33 = .ok (.getfield 86, 3) := by decide +kernel
theorem dc_M_holder_36 : decode bc_M_holder 36 = .ok (.iconst (-1), 1) := by decide +kernel
theorem dc_M_holder_37 : decode bc_M_holder 37 = .ok (.iastore, 1) := by decide +kernel
theorem dc_M_holder_38 : decode bc_M_holder 38 = .ok (.aload_n 0, 1) := by decide +kernel
theorem dc_M_holder_39 : decode bc_M_holder 39 = .ok (.dup, 1) := by decide +kernel
theorem dc_M_holder_40 : decode bc_M_holder 40 = .ok (.getfield 86, 3) := by decide +kernel
theorem dc_M_holder_43 : decode bc_M_holder 43 = .ok (.iconst 1, 1) := by decide +kernel
theorem dc_M_holder_44 : decode bc_M_holder 44 = .ok (.iadd, 1) := by decide +kernel
theorem dc_M_holder_45 : decode bc_M_holder 45 = .ok (.putfield 86, 3) := by decide +kernel
theorem dc_M_holder_48 : decode bc_M_holder 48 = .ok (.aload_n 0, 1) := by decide +kernel
theorem dc_M_holder_49 : decode bc_M_holder 49 = .ok (.getfield 86, 3) := by decide +kernel
theorem dc_M_holder_52 : decode bc_M_holder 52 = .ok (.iconst 1, 1) := by decide +kernel
theorem dc_M_holder_53 : decode bc_M_holder 53 = .ok (.isub, 1) := by decide +kernel
theorem dc_M_holder_54 : decode bc_M_holder 54 = .ok (.ireturn, 1) := by decide +kernel
theorem dc_M_weight_0 : decode bc_M_weight 0 = .ok (.aload_n 0, 1) := by decide +kernel
theorem dc_M_weight_1 : decode bc_M_weight 1 = .ok (.iload_n 1, 1) := by decide +kernel
theorem dc_M_weight_2 : decode bc_M_weight 2 = .ok (.invokevirtual 97, 3) := by decide +kernel
theorem dc_M_weight_5 : decode bc_M_weight 5 = .ok (.ifCond .eq 31, 3) := by decide +kernel
theorem dc_M_weight_8 : decode bc_M_weight 8 = .ok (.aload_n 0, 1) := by decide +kernel
theorem dc_M_weight_9 : decode bc_M_weight 9 = .ok (.iload_n 2, 1) := by decide +kernel
theorem dc_M_weight_10 : decode bc_M_weight 10 = .ok (.invokevirtual 100, 3) := by decide +kernel
theorem dc_M_weight_13 : decode bc_M_weight 13 = .ok (.ifCond .eq 23, 3) := by decide +kernel
theorem dc_M_weight_16 : decode bc_M_weight 16 = .ok (.aload_n 0, 1) := by decide +kernel
theorem dc_M_weight_17 : decode bc_M_weight 17 = .ok (.getfield 20, 3) := by decide +kernel
theorem dc_M_weight_20 : decode bc_M_weight 20 = .ok (.iload_n 1, 1) := by decide +kernel
theorem dc_M_weight_21 : decode bc_M_weight 21 = .ok (.baload, 1) := by decide +kernel
theorem dc_M_weight_22 : decode bc_M_weight 22 = .ok (.ifCond .ne 14, 3) := by decide +kernel
theorem dc_M_weight_25 : decode bc_M_weight 25 = .ok (.lload_n 3, 1) := by decide +kernel
theorem dc_M_weight_26 : decode bc_M_weight 26 = .ok (.lconst 0, 1) := by decide +kernel
theorem dc_M_weight_27 : decode bc_M_weight 27 = .ok (.ldc2_w 103, 3) := by decide +kernel
theorem dc_M_weight_30 : decode bc_M_weight 30 = .ok (.invokestatic 82, 3) := by decide +kernel
theorem dc_M_weight_33 : decode bc_M_weight 33 = .ok (.ifCond .ne 5, 3) := by decide +kernel
theorem dc_M_weight_36 : decode bc_M_weight 36 = .ok (.iconst 0, 1) := by decide +kernel
theorem dc_M_weight_37 : decode bc_M_weight 37 = .ok (.ireturn, 1) := by decide +kernel
theorem dc_M_weight_38 : decode bc_M_weight 38 = .ok (.aload_n 0, 1) := by decide +kernel
theorem dc_M_weight_39 : decode bc_M_weight 39 = .ok (.getfield 42, 3) := by decide +kernel
theorem dc_M_weight_42 : decode bc_M_weight 42 = .ok (.bipush 12, 2) := by decide +kernel
theorem dc_M_weight_44 : decode bc_M_weight 44 = .ok (.iload_n 1, 1) := by decide +kernel
theorem dc_M_weight_45 : decode bc_M_weight 45 = .ok (.imul, 1) := by decide +kernel
theorem dc_M_weight_46 : decode bc_M_weight 46 = .ok (.iload_n 2, 1) := by decide +kernel
theorem dc_M_weight_47 : decode bc_M_weight 47 = .ok (.iadd, 1) := by decide +kernel
theorem dc_M_weight_48 : decode bc_M_weight 48 = .ok (.lload_n 3, 1) := by decide +kernel
theorem dc_M_weight_49 : decode bc_M_weight 49 = .ok (.lastore, 1) := by decide +kernel
theorem dc_M_weight_50 : decode bc_M_weight 50 = .ok (.iconst 1, 1) := by decide +kernel
theorem dc_M_weight_51 : decode bc_M_weight 51 = .ok (.ireturn, 1) := by decide +kernel
theorem dc_M_aside_0 : decode bc_M_aside 0 = .ok (.aload_n 0, 1) := by decide +kernel
theorem dc_M_aside_1 : decode bc_M_aside 1 = .ok (.iload_n 1, 1) := by decide +kernel
theorem dc_M_aside_2 : decode bc_M_aside 2 = .ok (.invokevirtual 97, 3) := by decide +kernel
theorem dc_M_aside_5 : decode bc_M_aside 5 = .ok (.ifCond .eq 26, 3) := by decide +kernel
theorem dc_M_aside_8 : decode bc_M_aside 8 = .ok (.aload_n 0, 1) := by decide +kernel
theorem dc_M_aside_9 : decode bc_M_aside 9 = .ok (.getfield 20, 3) := by decide +kernel
theorem dc_M_aside_12 : decode bc_M_aside 12 = .ok (.iload_n 1, 1) := by decide +kernel
theorem dc_M_aside_13 : decode bc_M_aside 13 = .ok (.baload, 1) := by decide +kernel
theorem dc_M_aside_14 : decode bc_M_aside 14 = .ok (.ifCond .ne 17, 3) := by decide +kernel
theorem dc_M_aside_17 : decode bc_M_aside 17 = .ok (.lload_n 2, 1) := by decide +kernel
theorem dc_M_aside_18 : decode bc_M_aside 18 = .ok (.lconst 0, 1) := by decide +kernel
theorem dc_M_aside_19 : decode bc_M_aside 19 = .ok (.aload_n 0, 1) := by decide +kernel
theorem dc_M_aside_20 : decode bc_M_aside 20 = .ok (.getfield 7, 3) := by decide +kernel
theorem dc_M_aside_23 : decode bc_M_aside 23 = .ok (.iload_n 1, 1) := by decide +kernel
theorem dc_M_aside_24 : decode bc_M_aside 24 = .ok (.laload, 1) := by decide +kernel
theorem dc_M_aside_25 : decode bc_M_aside 25 = .ok (.invokestatic 82, 3) := by decide +kernel
theorem dc_M_aside_28 : decode bc_M_aside 28 = .ok (.ifCond .ne 5, 3) := by decide +kernel
theorem dc_M_aside_31 : decode bc_M_aside 31 = .ok (.iconst 0, 1) := by decide +kernel
theorem dc_M_aside_32 : decode bc_M_aside 32 = .ok (.ireturn, 1) := by decide +kernel
theorem dc_M_aside_33 : decode bc_M_aside 33 = .ok (.aload_n 0, 1) := by decide +kernel
theorem dc_M_aside_34 : decode bc_M_aside 34 = .ok (.getfield 13, 3) := by decide +kernel
theorem dc_M_aside_37 : decode bc_M_aside 37 = .ok (.iload_n 1, 1) := by decide +kernel
theorem dc_M_aside_38 : decode bc_M_aside 38 = .ok (.lload_n 2, 1) := by decide +kernel
theorem dc_M_aside_39 : decode bc_M_aside 39 = .ok (.lastore, 1) := by decide +kernel
theorem dc_M_aside_40 : decode bc_M_aside 40 = .ok (.iconst 1, 1) := by decide +kernel
theorem dc_M_aside_41 : decode bc_M_aside 41 = .ok (.ireturn, 1) := by decide +kernel
theorem dc_M_follows_0 : decode bc_M_follows 0 = .ok (.aload_n 0, 1) := by decide +kernel
theorem dc_M_follows_1 : decode bc_M_follows 1 = .ok (.iload_n 1, 1) := by decide +kernel
theorem dc_M_follows_2 : decode bc_M_follows 2 = .ok (.invokevirtual 97, 3) := by decide +kernel
theorem dc_M_follows_5 : decode bc_M_follows 5 = .ok (.ifCond .eq 39, 3) := by decide +kernel
theorem dc_M_follows_8 : decode bc_M_follows 8 = .ok (.aload_n 0, 1) := by decide +kernel
theorem dc_M_follows_9 : decode bc_M_follows 9 = .ok (.iload_n 2, 1) := by decide +kernel
theorem dc_M_follows_10 : decode bc_M_follows 10 = .ok (.invokevirtual 97, 3) := by decide +kernel
theorem dc_M_follows_13 : decode bc_M_follows 13 = .ok (.ifCond .eq 31, 3) := by decide +kernel
theorem dc_M_follows_16 : decode bc_M_follows 16 = .ok (.aload_n 0, 1) := by decide +kernel
theorem dc_M_follows_17 : decode bc_M_follows 17 = .ok (.getfield 20, 3) := by decide +kernel
theorem dc_M_follows_20 : decode bc_M_follows 20 = .ok (.iload_n 1, 1) := by decide +kernel
theorem dc_M_follows_21 : decode bc_M_follows 21 = .ok (.baload, 1) := by decide +kernel
theorem dc_M_follows_22 : decode bc_M_follows 22 = .ok (.ifCond .ne 22, 3) := by decide +kernel
theorem dc_M_follows_25 : decode bc_M_follows 25 = .ok (.aload_n 0, 1) := by decide +kernel
theorem dc_M_follows_26 : decode bc_M_follows 26 = .ok (.getfield 20, 3) := by decide +kernel
theorem dc_M_follows_29 : decode bc_M_follows 29 = .ok (.iload_n 2, 1) := by decide +kernel
theorem dc_M_follows_30 : decode bc_M_follows 30 = .ok (.baload, 1) := by decide +kernel
theorem dc_M_follows_31 : decode bc_M_follows 31 = .ok (.ifCond .eq 13, 3) := by decide +kernel
theorem dc_M_follows_34 : decode bc_M_follows 34 = .ok (.aload_n 0, 1) := by decide +kernel
theorem dc_M_follows_35 : decode bc_M_follows 35 = .ok (.getfield 16, 3) := by decide +kernel
theorem dc_M_follows_38 : decode bc_M_follows 38 = .ok (.iload_n 1, 1) := by decide +kernel
theorem dc_M_follows_39 : decode bc_M_follows 39 = .ok (.iaload, 1) := by decide +kernel
theorem dc_M_follows_40 : decode bc_M_follows 40 = .ok (.iconst (-1), 1) := by decide +kernel
theorem dc_M_follows_41 : decode bc_M_follows 41 = .ok (.if_icmp .eq 5, 3) := by decide +kernel
theorem dc_M_follows_44 : decode bc_M_follows 44 = .ok (.iconst 0, 1) := by decide +kernel
theorem dc_M_follows_45 : decode bc_M_follows 45 = .ok (.ireturn, 1) := by decide +kernel
theorem dc_M_follows_46 : decode bc_M_follows 46 = .ok (.aload_n 0, 1) := by decide +kernel
theorem dc_M_follows_47 : decode bc_M_follows 47 = .ok (.getfield 16, 3) := by decide +kernel
theorem dc_M_follows_50 : decode bc_M_follows 50 = .ok (.iload_n 1, 1) := by decide +kernel
theorem dc_M_follows_51 : decode bc_M_follows 51 = .ok (.iload_n 2, 1) := by decide +kernel
theorem dc_M_follows_52 : decode bc_M_follows 52 = .ok (.iastore, 1) := by decide +kernel
theorem dc_M_follows_53 : decode bc_M_follows 53 = .ok (.iconst 1, 1) := by decide +kernel
theorem dc_M_follows_54 : decode bc_M_follows 54 = .ok (.ireturn, 1) := by decide +kernel
theorem dc_M_allWeights_0 : decode bc_M_allWeights 0 = .ok (.lconst 0, 1) := by decide +kernel
theorem dc_M_allWeights_1 : decode bc_M_allWeights 1 = .ok (.lstore_n 2, 1) := by decide +kernel
theorem dc_M_allWeights_2 : decode bc_M_allWeights 2 = .ok (.iconst 0, 1) := by decide +kernel
theorem dc_M_allWeights_3 : decode bc_M_allWeights 3 = .ok (.istore 4, 2) := by decide +kernel
theorem dc_M_allWeights_5 : decode bc_M_allWeights 5 = .ok (.iload 4, 2) := by decide +kernel
theorem dc_M_allWeights_7 : decode bc_M_allWeights 7 = .ok (.aload_n 0, 1) := by decide +kernel
theorem dc_M_allWeights_8 : decode bc_M_allWeights 8 = .ok (.getfield 86, 3) := by decide +kernel
theorem dc_M_allWeights_11 : decode bc_M_allWeights 11 = .ok (.if_icmp .ge 24, 3) := by decide +kernel
theorem dc_M_allWeights_14 : decode bc_M_allWeights 14 = .ok (.lload_n 2, 1) := by decide +kernel
theorem dc_M_allWeights_15 : decode bc_M_allWeights 15 = .ok (.aload_n 0, 1) := by decide +kernel
theorem dc_M_allWeights_16 : decode bc_M_allWeights 16 = .ok (.getfield 42, 3) := by decide +kernel
theorem dc_M_allWeights_19 : decode bc_M_allWeights 19 = .ok (.bipush 12, 2) := by decide +kernel
theorem dc_M_allWeights_21 : decode bc_M_allWeights 21 = .ok (.iload_n 1, 1) := by decide +kernel
theorem dc_M_allWeights_22 : decode bc_M_allWeights 22 = .ok (.imul, 1) := by decide +kernel
theorem dc_M_allWeights_23 : decode bc_M_allWeights 23 = .ok (.iload 4, 2) := by decide +kernel
theorem dc_M_allWeights_25 : decode bc_M_allWeights 25 = .ok (.iadd, 1) := by decide +kernel
theorem dc_M_allWeights_26 : decode bc_M_allWeights 26 = .ok (.laload, 1) := by decide +kernel
theorem dc_M_allWeights_27 : decode bc_M_allWeights 27 = .ok (.ladd, 1) := by decide +kernel
theorem dc_M_allWeights_28 : decode bc_M_allWeights 28 = .ok (.lstore_n 2, 1) := by decide +kernel
theorem dc_M_allWeights_29 : decode bc_M_allWeights 29 = .ok (.iinc 4 1, 3) := by decide +kernel
theorem dc_M_allWeights_32 : decode bc_M_allWeights 32 = .ok (.goto (-27), 3) := by decide +kernel
theorem dc_M_allWeights_35 : decode bc_M_allWeights 35 = .ok (.lload_n 2, 1) := by decide +kernel
theorem dc_M_allWeights_36 : decode bc_M_allWeights 36 = .ok (.lreturn, 1) := by decide +kernel
theorem dc_M_allShares_0 : decode bc_M_allShares 0 = .ok (.lconst 0, 1) := by decide +kernel
theorem dc_M_allShares_1 : decode bc_M_allShares 1 = .ok (.lstore_n 2, 1) := by decide +kernel
theorem dc_M_allShares_2 : decode bc_M_allShares 2 = .ok (.iconst 0, 1) := by decide +kernel
theorem dc_M_allShares_3 : decode bc_M_allShares 3 = .ok (.istore 4, 2) := by decide +kernel
theorem dc_M_allShares_5 : decode bc_M_allShares 5 = .ok (.iload 4, 2) := by decide +kernel
theorem dc_M_allShares_7 : decode bc_M_allShares 7 = .ok (.aload_n 0, 1) := by decide +kernel
theorem dc_M_allShares_8 : decode bc_M_allShares 8 = .ok (.getfield 86, 3) := by decide +kernel
theorem dc_M_allShares_11 : decode bc_M_allShares 11 = .ok (.if_icmp .ge 24, 3) := by decide +kernel
theorem dc_M_allShares_14 : decode bc_M_allShares 14 = .ok (.lload_n 2, 1) := by decide +kernel
theorem dc_M_allShares_15 : decode bc_M_allShares 15 = .ok (.aload_n 0, 1) := by decide +kernel
theorem dc_M_allShares_16 : decode bc_M_allShares 16 = .ok (.getfield 45, 3) := by decide +kernel
theorem dc_M_allShares_19 : decode bc_M_allShares 19 = .ok (.bipush 12, 2) := by decide +kernel
theorem dc_M_allShares_21 : decode bc_M_allShares 21 = .ok (.iload_n 1, 1) := by decide +kernel
theorem dc_M_allShares_22 : decode bc_M_allShares 22 = .ok (.imul, 1) := by decide +kernel
theorem dc_M_allShares_23 : decode bc_M_allShares 23 = .ok (.iload 4, 2) := by decide +kernel
theorem dc_M_allShares_25 : decode bc_M_allShares 25 = .ok (.iadd, 1) := by decide +kernel
theorem dc_M_allShares_26 : decode bc_M_allShares 26 = .ok (.laload, 1) := by decide +kernel
theorem dc_M_allShares_27 : decode bc_M_allShares 27 = .ok (.ladd, 1) := by decide +kernel
theorem dc_M_allShares_28 : decode bc_M_allShares 28 = .ok (.lstore_n 2, 1) := by decide +kernel
theorem dc_M_allShares_29 : decode bc_M_allShares 29 = .ok (.iinc 4 1, 3) := by decide +kernel
theorem dc_M_allShares_32 : decode bc_M_allShares 32 = .ok (.goto (-27), 3) := by decide +kernel
theorem dc_M_allShares_35 : decode bc_M_allShares 35 = .ok (.lload_n 2, 1) := by decide +kernel
theorem dc_M_allShares_36 : decode bc_M_allShares 36 = .ok (.lreturn, 1) := by decide +kernel
theorem dc_M_part_0 : decode bc_M_part 0 = .ok (.aload_n 0, 1) := by decide +kernel
theorem dc_M_part_1 : decode bc_M_part 1 = .ok (.iload_n 1, 1) := by decide +kernel
theorem dc_M_part_2 : decode bc_M_part 2 = .ok (.invokevirtual 97, 3) := by decide +kernel
theorem dc_M_part_5 : decode bc_M_part 5 = .ok (.ifCond .eq 12, 3) := by decide +kernel
theorem dc_M_part_8 : decode bc_M_part 8 = .ok (.aload_n 0, 1) := by decide +kernel
theorem dc_M_part_9 : decode bc_M_part 9 = .ok (.getfield 20, 3) := by decide +kernel
theorem dc_M_part_12 : decode bc_M_part 12 = .ok (.iload_n 1, 1) := by decide +kernel
theorem dc_M_part_13 : decode bc_M_part 13 = .ok (.baload, 1) := by decide +kernel
theorem dc_M_part_14 : decode bc_M_part 14 = .ok (.ifCond .eq 5, 3) := by decide +kernel
theorem dc_M_part_17 : decode bc_M_part 17 = .ok (.iconst (-1), 1) := by decide +kernel
theorem dc_M_part_18 : decode bc_M_part 18 = .ok (.ireturn, 1) := by decide +kernel
theorem dc_M_part_19 : decode bc_M_part 19 = .ok (.aload_n 0, 1) := by decide +kernel
theorem dc_M_part_20 : decode bc_M_part 20 = .ok (.iload_n 1, 1) := by decide +kernel
theorem dc_M_part_21 : decode bc_M_part 21 = .ok (.invokevirtual 105, 3) := by decide +kernel
theorem dc_M_part_24 : decode bc_M_part 24 = .ok (.lstore_n 2, 1) := by decide +kernel
theorem dc_M_part_25 : decode bc_M_part 25 = .ok (.lload_n 2, 1) := by decide +kernel
theorem dc_M_part_26 : decode bc_M_part 26 = .ok (.lconst 0, 1) := by decide +kernel
theorem dc_M_part_27 : decode bc_M_part 27 = .ok (.lcmp, 1) := by decide +kernel
theorem dc_M_part_28 : decode bc_M_part 28 = .ok (.ifCond .ne 5, 3) := by decide +kernel
theorem dc_M_part_31 : decode bc_M_part 31 = .ok (.iconst (-1), 1) := by decide +kernel
theorem dc_M_part_32 : decode bc_M_part 32 = .ok (.ireturn, 1) := by decide +kernel
theorem dc_M_part_33 : decode bc_M_part 33 = .ok (.aload_n 0, 1) := by decide +kernel
theorem dc_M_part_34 : decode bc_M_part 34 = .ok (.getfield 7, 3) := by decide +kernel
theorem dc_M_part_37 : decode bc_M_part 37 = .ok (.iload_n 1, 1) := by decide +kernel
theorem dc_M_part_38 : decode bc_M_part 38 = .ok (.laload, 1) := by decide +kernel
theorem dc_M_part_39 : decode bc_M_part 39 = .ok (.aload_n 0, 1) := by decide +kernel
theorem dc_M_part_40 : decode bc_M_part 40 = .ok (.getfield 13, 3) := by decide +kernel
theorem dc_M_part_43 : decode bc_M_part 43 = .ok (.iload_n 1, 1) := by decide +kernel
theorem dc_M_part_44 : decode bc_M_part 44 = .ok (.laload, 1) := by decide +kernel
theorem dc_M_part_45 : decode bc_M_part 45 = .ok (.lsub, 1) := by decide +kernel
theorem dc_M_part_46 : decode bc_M_part 46 = .ok (.lstore 4, 2) := by decide +kernel
theorem dc_M_part_48 : decode bc_M_part 48 = .ok (.lload 4, 2) := by decide +kernel
theorem dc_M_part_50 : decode bc_M_part 50 = .ok (.lstore 6, 2) := by decide +kernel
theorem dc_M_part_52 : decode bc_M_part 52 = .ok (.iconst 0, 1) := by decide +kernel
theorem dc_M_part_53 : decode bc_M_part 53 = .ok (.istore 8, 2) := by decide +kernel
theorem dc_M_part_55 : decode bc_M_part 55 = .ok (.iload 8, 2) := by decide +kernel
theorem dc_M_part_57 : decode bc_M_part 57 = .ok (.aload_n 0, 1) := by decide +kernel
theorem dc_M_part_58 : decode bc_M_part 58 = .ok (.getfield 86, 3) := by decide +kernel
theorem dc_M_part_61 : decode bc_M_part 61 = .ok (.if_icmp .ge 62, 3) := by decide +kernel
theorem dc_M_part_64 : decode bc_M_part 64 = .ok (.lload 4, 2) := by decide +kernel
theorem dc_M_part_66 : decode bc_M_part 66 = .ok (.aload_n 0, 1) := by decide +kernel
theorem dc_M_part_67 : decode bc_M_part 67 = .ok (.getfield 42, 3) := by decide +kernel
theorem dc_M_part_70 : decode bc_M_part 70 = .ok (.bipush 12, 2) := by decide +kernel
theorem dc_M_part_72 : decode bc_M_part 72 = .ok (.iload_n 1, 1) := by decide +kernel
theorem dc_M_part_73 : decode bc_M_part 73 = .ok (.imul, 1) := by decide +kernel
theorem dc_M_part_74 : decode bc_M_part 74 = .ok (.iload 8, 2) := by decide +kernel
theorem dc_M_part_76 : decode bc_M_part 76 = .ok (.iadd, 1) := by decide +kernel
theorem dc_M_part_77 : decode bc_M_part 77 = .ok (.laload, 1) := by decide +kernel
theorem dc_M_part_78 : decode bc_M_part 78 = .ok (.lmul, 1) := by decide +kernel
theorem dc_M_part_79 : decode bc_M_part 79 = .ok (.lstore 9, 2) := by decide +kernel
theorem dc_M_part_81 : decode bc_M_part 81 = .ok (.aload_n 0, 1) := by decide +kernel
theorem dc_M_part_82 : decode bc_M_part 82 = .ok (.getfield 45, 3) := by decide +kernel
theorem dc_M_part_85 : decode bc_M_part 85 = .ok (.bipush 12, 2) := by decide +kernel
theorem dc_M_part_87 : decode bc_M_part 87 = .ok (.iload_n 1, 1) := by decide +kernel
theorem dc_M_part_88 : decode bc_M_part 88 = .ok (.imul, 1) := by decide +kernel
theorem dc_M_part_89 : decode bc_M_part 89 = .ok (.iload 8, 2) := by decide +kernel
theorem dc_M_part_91 : decode bc_M_part 91 = .ok (.iadd, 1) := by decide +kernel
theorem dc_M_part_92 : decode bc_M_part 92 = .ok (.lload 9, 2) := by decide +kernel
theorem dc_M_part_94 : decode bc_M_part 94 = .ok (.lload_n 2, 1) := by decide +kernel
theorem dc_M_part_95 : decode bc_M_part 95 = .ok (.ldiv, 1) := by decide +kernel
theorem dc_M_part_96 : decode bc_M_part 96 = .ok (.lastore, 1) := by decide +kernel
theorem dc_M_part_97 : decode bc_M_part 97 = .ok (.aload_n 0, 1) := by decide +kernel
theorem dc_M_part_98 : decode bc_M_part 98 = .ok (.getfield 48, 3) := by decide +kernel
theorem dc_M_part_101 : decode bc_M_part 101 = .ok (.iload 8, 2) := by decide +kernel
theorem dc_M_part_103 : decode bc_M_part 103 = .ok (.lload 9, 2) := by decide +kernel
theorem dc_M_part_105 : decode bc_M_part 105 = .ok (.lload_n 2, 1) := by decide +kernel
theorem dc_M_part_106 : decode bc_M_part 106 = .ok (.lrem, 1) := by decide +kernel
theorem dc_M_part_107 : decode bc_M_part 107 = .ok (.lastore, 1) := by decide +kernel
theorem dc_M_part_108 : decode bc_M_part 108 = .ok (.lload 6, 2) := by decide +kernel
theorem dc_M_part_110 : decode bc_M_part 110 = .ok (.lload 9, 2) := by decide +kernel
theorem dc_M_part_112 : decode bc_M_part 112 = .ok (.lload_n 2, 1) := by decide +kernel
theorem dc_M_part_113 : decode bc_M_part 113 = .ok (.ldiv, 1) := by decide +kernel
theorem dc_M_part_114 : decode bc_M_part 114 = .ok (.lsub, 1) := by decide +kernel
theorem dc_M_part_115 : decode bc_M_part 115 = .ok (.lstore 6, 2) := by decide +kernel
theorem dc_M_part_117 : decode bc_M_part 117 = .ok (.iinc 8 1, 3) := by decide +kernel
theorem dc_M_part_120 : decode bc_M_part 120 = .ok (.goto (-65), 3) := by decide +kernel
theorem dc_M_part_123 : decode bc_M_part 123 = .ok (.lload 6, 2) := by decide +kernel
theorem dc_M_part_125 : decode bc_M_part 125 = .ok (.lconst 0, 1) := by decide +kernel
theorem dc_M_part_126 : decode bc_M_part 126 = .ok (.lcmp, 1) := by decide +kernel
theorem dc_M_part_127 : decode bc_M_part 127 = .ok (.ifCond .le 86, 3) := by decide +kernel
theorem dc_M_part_130 : decode bc_M_part 130 = .ok (.iconst 0, 1) := by decide +kernel
theorem dc_M_part_131 : decode bc_M_part 131 = .ok (.istore 8, 2) := by decide +kernel
theorem dc_M_part_133 : decode bc_M_part 133 = .ok (.iconst 1, 1) := by decide +kernel
theorem dc_M_part_134 : decode bc_M_part 134 = .ok (.istore 9, 2) := by decide +kernel
theorem dc_M_part_136 : decode bc_M_part 136 = .ok (.iload 9, 2) := by decide +kernel
theorem dc_M_part_138 : decode bc_M_part 138 = .ok (.aload_n 0, 1) := by decide +kernel
theorem dc_M_part_139 : decode bc_M_part 139 = .ok (.getfield 86, 3) := by decide +kernel
theorem dc_M_part_142 : decode bc_M_part 142 = .ok (.if_icmp .ge 36, 3) := by decide +kernel
theorem dc_M_part_145 : decode bc_M_part 145 = .ok (.aload_n 0, 1) := by decide +kernel
theorem dc_M_part_146 : decode bc_M_part 146 = .ok (.getfield 48, 3) := by decide +kernel
theorem dc_M_part_149 : decode bc_M_part 149 = .ok (.iload 9, 2) := by decide +kernel
theorem dc_M_part_151 : decode bc_M_part 151 = .ok (.laload, 1) := by decide +kernel
theorem dc_M_part_152 : decode bc_M_part 152 = .ok (.aload_n 0, 1) := by decide +kernel
theorem dc_M_part_153 : decode bc_M_part 153 = .ok (.getfield 48, 3) := by decide +kernel
theorem dc_M_part_156 : decode bc_M_part 156 = .ok (.iload 8, 2) := by decide +kernel
theorem dc_M_part_158 : decode bc_M_part 158 = .ok (.laload, 1) := by decide +kernel
theorem dc_M_part_159 : decode bc_M_part 159 = .ok (.lcmp, 1) := by decide +kernel
theorem dc_M_part_160 : decode bc_M_part 160 = .ok (.ifCond .le 8, 3) := by decide +kernel
theorem dc_M_part_163 : decode bc_M_part 163 = .ok (.iload 9, 2) := by decide +kernel
theorem dc_M_part_165 : decode bc_M_part 165 = .ok (.goto 5, 3) := by decide +kernel
theorem dc_M_part_168 : decode bc_M_part 168 = .ok (.iload 8, 2) := by decide +kernel
theorem dc_M_part_170 : decode bc_M_part 170 = .ok (.istore 8, 2) := by decide +kernel
theorem dc_M_part_172 : decode bc_M_part 172 = .ok (.iinc 9 1, 3) := by decide +kernel
theorem dc_M_part_175 : decode bc_M_part 175 = .ok (.goto (-39), 3) := by decide +kernel
theorem dc_M_part_178 : decode bc_M_part 178 = .ok (.aload_n 0, 1) := by decide +kernel
theorem dc_M_part_179 : decode bc_M_part 179 = .ok (.getfield 45, 3) := by decide +kernel
theorem dc_M_part_182 : decode bc_M_part 182 = .ok (.bipush 12, 2) := by decide +kernel
theorem dc_M_part_184 : decode bc_M_part 184 = .ok (.iload_n 1, 1) := by decide +kernel
theorem dc_M_part_185 : decode bc_M_part 185 = .ok (.imul, 1) := by decide +kernel
theorem dc_M_part_186 : decode bc_M_part 186 = .ok (.iload 8, 2) := by decide +kernel
theorem dc_M_part_188 : decode bc_M_part 188 = .ok (.iadd, 1) := by decide +kernel
theorem dc_M_part_189 : decode bc_M_part 189 = .ok (.dup2, 1) := by decide +kernel
theorem dc_M_part_190 : decode bc_M_part 190 = .ok (.laload, 1) := by decide +kernel
theorem dc_M_part_191 : decode bc_M_part 191 = .ok (.lconst 1, 1) := by decide +kernel
theorem dc_M_part_192 : decode bc_M_part 192 = .ok (.ladd, 1) := by decide +kernel
theorem dc_M_part_193 : decode bc_M_part 193 = .ok (.lastore, 1) := by decide +kernel
theorem dc_M_part_194 : decode bc_M_part 194 = .ok (.aload_n 0, 1) := by decide +kernel
theorem dc_M_part_195 : decode bc_M_part 195 = .ok (.getfield 48, 3) := by decide +kernel
theorem dc_M_part_198 : decode bc_M_part 198 = .ok (.iload 8, 2) := by decide +kernel
theorem dc_M_part_200 : decode bc_M_part 200 = .ok (.ldc2_w 109, 3) := by decide +kernel
theorem dc_M_part_203 : decode bc_M_part 203 = .ok (.lastore, 1) := by decide +kernel
theorem dc_M_part_204 : decode bc_M_part 204 = .ok (.lload 6, 2) := by decide +kernel
theorem dc_M_part_206 : decode bc_M_part 206 = .ok (.lconst 1, 1) := by decide +kernel
theorem dc_M_part_207 : decode bc_M_part 207 = .ok (.lsub, 1) := by decide +kernel
theorem dc_M_part_208 : decode bc_M_part 208 = .ok (.lstore 6, 2) := by decide +kernel
theorem dc_M_part_210 : decode bc_M_part 210 = .ok (.goto (-87), 3) := by decide +kernel
theorem dc_M_part_213 : decode bc_M_part 213 = .ok (.iconst 0, 1) := by decide +kernel
theorem dc_M_part_214 : decode bc_M_part 214 = .ok (.istore 8, 2) := by decide +kernel
theorem dc_M_part_216 : decode bc_M_part 216 = .ok (.iconst 0, 1) := by decide +kernel
theorem dc_M_part_217 : decode bc_M_part 217 = .ok (.istore 9, 2) := by decide +kernel
theorem dc_M_part_219 : decode bc_M_part 219 = .ok (.iload 9, 2) := by decide +kernel
theorem dc_M_part_221 : decode bc_M_part 221 = .ok (.aload_n 0, 1) := by decide +kernel
theorem dc_M_part_222 : decode bc_M_part 222 = .ok (.getfield 86, 3) := by decide +kernel
theorem dc_M_part_225 : decode bc_M_part 225 = .ok (.if_icmp .ge 120, 3) := by decide +kernel
theorem dc_M_part_228 : decode bc_M_part 228 = .ok (.bipush 12, 2) := by decide +kernel
theorem dc_M_part_230 : decode bc_M_part 230 = .ok (.iload_n 1, 1) := by decide +kernel
theorem dc_M_part_231 : decode bc_M_part 231 = .ok (.imul, 1) := by decide +kernel
theorem dc_M_part_232 : decode bc_M_part 232 = .ok (.iload 9, 2) := by decide +kernel
theorem dc_M_part_234 : decode bc_M_part 234 = .ok (.iadd, 1) := by decide +kernel
theorem dc_M_part_235 : decode bc_M_part 235 = .ok (.istore 10, 2) := by decide +kernel
theorem dc_M_part_237 : decode bc_M_part 237 = .ok (.aload_n 0, 1) := by decide +kernel
theorem dc_M_part_238 : decode bc_M_part 238 = .ok (.getfield 16, 3) := by decide +kernel
theorem dc_M_part_241 : decode bc_M_part 241 = .ok (.iload_n 1, 1) := by decide +kernel
theorem dc_M_part_242 : decode bc_M_part 242 = .ok (.iaload, 1) := by decide +kernel
theorem dc_M_part_243 : decode bc_M_part 243 = .ok (.iconst (-1), 1) := by decide +kernel
theorem dc_M_part_244 : decode bc_M_part 244 = .ok (.if_icmp .eq 72, 3) := by decide +kernel
theorem dc_M_part_247 : decode bc_M_part 247 = .ok (.aload_n 0, 1) := by decide +kernel
theorem dc_M_part_248 : decode bc_M_part 248 = .ok (.getfield 45, 3) := by decide +kernel
theorem dc_M_part_251 : decode bc_M_part 251 = .ok (.iload 10, 2) := by decide +kernel
theorem dc_M_part_253 : decode bc_M_part 253 = .ok (.laload, 1) := by decide +kernel
theorem dc_M_part_254 : decode bc_M_part 254 = .ok (.lstore 11, 2) := by decide +kernel
theorem dc_M_part_256 : decode bc_M_part 256 = .ok (.lload 11, 2) := by decide +kernel
theorem dc_M_part_258 : decode bc_M_part 258 = .ok (.aload_n 0, 1) := by decide +kernel
theorem dc_M_part_259 : decode bc_M_part 259 = .ok (.aload_n 0, 1) := by decide +kernel
theorem dc_M_part_260 : decode bc_M_part 260 = .ok (.getfield 16, 3) := by decide +kernel
theorem dc_M_part_263 : decode bc_M_part 263 = .ok (.iload_n 1, 1) := by decide +kernel
theorem dc_M_part_264 : decode bc_M_part 264 = .ok (.iaload, 1) := by decide +kernel
theorem dc_M_part_265 : decode bc_M_part 265 = .ok (.iload 9, 2) := by decide +kernel
theorem dc_M_part_267 : decode bc_M_part 267 = .ok (.invokevirtual 111, 3) := by decide +kernel
theorem dc_M_part_270 : decode bc_M_part 270 = .ok (.ladd, 1) := by decide +kernel
theorem dc_M_part_271 : decode bc_M_part 271 = .ok (.lstore 13, 2) := by decide +kernel
theorem dc_M_part_273 : decode bc_M_part 273 = .ok (.aload_n 0, 1) := by decide +kernel
theorem dc_M_part_274 : decode bc_M_part 274 = .ok (.getfield 45, 3) := by decide +kernel
theorem dc_M_part_277 : decode bc_M_part 277 = .ok (.iload 10, 2) := by decide +kernel
theorem dc_M_part_279 : decode bc_M_part 279 = .ok (.lload 13, 2) := by decide +kernel
theorem dc_M_part_281 : decode bc_M_part 281 = .ok (.lconst 0, 1) := by decide +kernel
theorem dc_M_part_282 : decode bc_M_part 282 = .ok (.lcmp, 1) := by decide +kernel
theorem dc_M_part_283 : decode bc_M_part 283 = .ok (.ifCond .ge 7, 3) := by decide +kernel
theorem dc_M_part_286 : decode bc_M_part 286 = .ok (.lconst 0, 1) := by decide +kernel
theorem dc_M_part_287 : decode bc_M_part 287 = .ok (.goto 5, 3) := by decide +kernel
theorem dc_M_part_290 : decode bc_M_part 290 = .ok (.lload 13, 2) := by decide +kernel
theorem dc_M_part_292 : decode bc_M_part 292 = .ok (.lastore, 1) := by decide +kernel
theorem dc_M_part_293 : decode bc_M_part 293 = .ok (.aload_n 0, 1) := by decide +kernel
theorem dc_M_part_294 : decode bc_M_part 294 = .ok (.getfield 27, 3) := by decide +kernel
theorem dc_M_part_297 : decode bc_M_part 297 = .ok (.iload_n 1, 1) := by decide +kernel
theorem dc_M_part_298 : decode bc_M_part 298 = .ok (.aload_n 0, 1) := by decide +kernel
theorem dc_M_part_299 : decode bc_M_part 299 = .ok (.getfield 27, 3) := by decide +kernel
theorem dc_M_part_302 : decode bc_M_part 302 = .ok (.iload_n 1, 1) := by decide +kernel
theorem dc_M_part_303 : decode bc_M_part 303 = .ok (.laload, 1) := by decide +kernel
theorem dc_M_part_304 : decode bc_M_part 304 = .ok (.aload_n 0, 1) := by decide +kernel
theorem dc_M_part_305 : decode bc_M_part 305 = .ok (.getfield 45, 3) := by decide +kernel
theorem dc_M_part_308 : decode bc_M_part 308 = .ok (.iload 10, 2) := by decide +kernel
theorem dc_M_part_310 : decode bc_M_part 310 = .ok (.laload, 1) := by decide +kernel
theorem dc_M_part_311 : decode bc_M_part 311 = .ok (.ladd, 1) := by decide +kernel
theorem dc_M_part_312 : decode bc_M_part 312 = .ok (.lload 11, 2) := by decide +kernel
theorem dc_M_part_314 : decode bc_M_part 314 = .ok (.lsub, 1) := by decide +kernel
theorem dc_M_part_315 : decode bc_M_part 315 = .ok (.lastore, 1) := by decide +kernel
theorem dc_M_part_316 : decode bc_M_part 316 = .ok (.aload_n 0, 1) := by decide +kernel
theorem dc_M_part_317 : decode bc_M_part 317 = .ok (.getfield 45, 3) := by decide +kernel
theorem dc_M_part_320 : decode bc_M_part 320 = .ok (.iload 10, 2) := by decide +kernel
theorem dc_M_part_322 : decode bc_M_part 322 = .ok (.laload, 1) := by decide +kernel
theorem dc_M_part_323 : decode bc_M_part 323 = .ok (.lconst 0, 1) := by decide +kernel
theorem dc_M_part_324 : decode bc_M_part 324 = .ok (.lcmp, 1) := by decide +kernel
theorem dc_M_part_325 : decode bc_M_part 325 = .ok (.ifCond .le 10, 3) := by decide +kernel
theorem dc_M_part_328 : decode bc_M_part 328 = .ok (.iload 8, 2) := by decide +kernel
theorem dc_M_part_330 : decode bc_M_part 330 = .ok (.iconst 1, 1) := by decide +kernel
theorem dc_M_part_331 : decode bc_M_part 331 = .ok (.iadd, 1) := by decide +kernel
theorem dc_M_part_332 : decode bc_M_part 332 = .ok (.goto 5, 3) := by decide +kernel
theorem dc_M_part_335 : decode bc_M_part 335 = .ok (.iload 8, 2) := by decide +kernel
theorem dc_M_part_337 : decode bc_M_part 337 = .ok (.istore 8, 2) := by decide +kernel
theorem dc_M_part_339 : decode bc_M_part 339 = .ok (.iinc 9 1, 3) := by decide +kernel
theorem dc_M_part_342 : decode bc_M_part 342 = .ok (.goto (-123), 3) := by decide +kernel
theorem dc_M_part_345 : decode bc_M_part 345 = .ok (.aload_n 0, 1) := by decide +kernel
theorem dc_M_part_346 : decode bc_M_part 346 = .ok (.getfield 20, 3) := by decide +kernel
theorem dc_M_part_349 : decode bc_M_part 349 = .ok (.iload_n 1, 1) := by decide +kernel
theorem dc_M_part_350 : decode bc_M_part 350 = .ok (.iconst 1, 1) := by decide +kernel
theorem dc_M_part_351 : decode bc_M_part 351 = .ok (.bastore, 1) := by decide +kernel
theorem dc_M_part_352 : decode bc_M_part 352 = .ok (.iload 8, 2) := by decide +kernel
theorem dc_M_part_354 : decode bc_M_part 354 = .ok (.ireturn, 1) := by decide +kernel
theorem dc_M_given_0 : decode bc_M_given 0 = .ok (.aload_n 0, 1) := by decide +kernel
theorem dc_M_given_1 : decode bc_M_given 1 = .ok (.iload_n 1, 1) := by decide +kernel
theorem dc_M_given_2 : decode bc_M_given 2 = .ok (.invokevirtual 97, 3) := by decide +kernel
theorem dc_M_given_5 : decode bc_M_given 5 = .ok (.ifCond .eq 25, 3) := by decide +kernel
theorem dc_M_given_8 : decode bc_M_given 8 = .ok (.aload_n 0, 1) := by decide +kernel
theorem dc_M_given_9 : decode bc_M_given 9 = .ok (.iload_n 2, 1) := by decide +kernel
theorem dc_M_given_10 : decode bc_M_given 10 = .ok (.invokevirtual 100, 3) := by decide +kernel
theorem dc_M_given_13 : decode bc_M_given 13 = .ok (.ifCond .eq 17, 3) := by decide +kernel
theorem dc_M_given_16 : decode bc_M_given 16 = .ok (.aload_n 0, 1) := by decide +kernel
theorem dc_M_given_17 : decode bc_M_given 17 = .ok (.getfield 45, 3) := by decide +kernel
theorem dc_M_given_20 : decode bc_M_given 20 = .ok (.bipush 12, 2) := by decide +kernel
theorem dc_M_given_22 : decode bc_M_given 22 = .ok (.iload_n 1, 1) := by decide +kernel
theorem dc_M_given_23 : decode bc_M_given 23 = .ok (.imul, 1) := by decide +kernel
theorem dc_M_given_24 : decode bc_M_given 24 = .ok (.iload_n 2, 1) := by decide +kernel
theorem dc_M_given_25 : decode bc_M_given 25 = .ok (.iadd, 1) := by decide +kernel
theorem dc_M_given_26 : decode bc_M_given 26 = .ok (.laload, 1) := by decide +kernel
theorem dc_M_given_27 : decode bc_M_given 27 = .ok (.goto 6, 3) := by decide +kernel
theorem dc_M_given_30 : decode bc_M_given 30 = .ok (.ldc2_w 109, 3) := by decide +kernel
theorem dc_M_given_33 : decode bc_M_given 33 = .ok (.lreturn, 1) := by decide +kernel
theorem dc_M_land_0 : decode bc_M_land 0 = .ok (.aload_n 0, 1) := by decide +kernel
theorem dc_M_land_1 : decode bc_M_land 1 = .ok (.iload_n 1, 1) := by decide +kernel
theorem dc_M_land_2 : decode bc_M_land 2 = .ok (.invokevirtual 97, 3) := by decide +kernel
theorem dc_M_land_5 : decode bc_M_land 5 = .ok (.ifCond .eq 30, 3) := by decide +kernel
theorem dc_M_land_8 : decode bc_M_land 8 = .ok (.aload_n 0, 1) := by decide +kernel
theorem dc_M_land_9 : decode bc_M_land 9 = .ok (.iload_n 2, 1) := by decide +kernel
theorem dc_M_land_10 : decode bc_M_land 10 = .ok (.invokevirtual 100, 3) := by decide +kernel
theorem dc_M_land_13 : decode bc_M_land 13 = .ok (.ifCond .eq 22, 3) := by decide +kernel
theorem dc_M_land_16 : decode bc_M_land 16 = .ok (.aload_n 0, 1) := by decide +kernel
theorem dc_M_land_17 : decode bc_M_land 17 = .ok (.getfield 20, 3) := by decide +kernel
theorem dc_M_land_20 : decode bc_M_land 20 = .ok (.iload_n 1, 1) := by decide +kernel
theorem dc_M_land_21 : decode bc_M_land 21 = .ok (.baload, 1) := by decide +kernel
theorem dc_M_land_22 : decode bc_M_land 22 = .ok (.ifCond .eq 13, 3) := by decide +kernel
theorem dc_M_land_25 : decode bc_M_land 25 = .ok (.aload_n 0, 1) := by decide +kernel
theorem dc_M_land_26 : decode bc_M_land 26 = .ok (.getfield 115, 3) := by decide +kernel
theorem dc_M_land_29 : decode bc_M_land 29 = .ok (.sipush 200, 3) := by decide +kernel
theorem dc_M_land_32 : decode bc_M_land 32 = .ok (.if_icmp .ne 5, 3) := by decide +kernel
theorem dc_M_land_35 : decode bc_M_land 35 = .ok (.iconst 0, 1) := by decide +kernel
theorem dc_M_land_36 : decode bc_M_land 36 = .ok (.ireturn, 1) := by decide +kernel
theorem dc_M_land_37 : decode bc_M_land 37 = .ok (.lload_n 3, 1) := by decide +kernel
theorem dc_M_land_38 : decode bc_M_land 38 = .ok (.lconst 1, 1) := by decide +kernel
theorem dc_M_land_39 : decode bc_M_land 39 = .ok (.ldc2_w 91, 3) := by decide +kernel
theorem dc_M_land_42 : decode bc_M_land 42 = .ok (.invokestatic 82, 3) := by decide +kernel
theorem dc_M_land_45 : decode bc_M_land 45 = .ok (.ifCond .eq 36, 3) := by decide +kernel
theorem dc_M_land_48 : decode bc_M_land 48 = .ok (.iload 5, 2) := by decide +kernel
theorem dc_M_land_50 : decode bc_M_land 50 = .ok (.i2l, 1) := by decide +kernel
theorem dc_M_land_51 : decode bc_M_land 51 = .ok (.lconst 0, 1) := by decide +kernel
theorem dc_M_land_52 : decode bc_M_land 52 = .ok (.ldc2_w 118, 3) := by decide +kernel
theorem dc_M_land_55 : decode bc_M_land 55 = .ok (.invokestatic 82, 3) := by decide +kernel
theorem dc_M_land_58 : decode bc_M_land 58 = .ok (.ifCond .eq 23, 3) := by decide +kernel
theorem dc_M_land_61 : decode bc_M_land 61 = .ok (.iload 6, 2) := by decide +kernel
theorem dc_M_land_63 : decode bc_M_land 63 = .ok (.i2l, 1) := by decide +kernel
theorem dc_M_land_64 : decode bc_M_land 64 = .ok (.lconst 0, 1) := by decide +kernel
theorem dc_M_land_65 : decode bc_M_land 65 = .ok (.ldc2_w 118, 3) := by decide +kernel
theorem dc_M_land_68 : decode bc_M_land 68 = .ok (.invokestatic 82, 3) := by decide +kernel
theorem dc_M_land_71 : decode bc_M_land 71 = .ok (.ifCond .eq 10, 3) := by decide +kernel
theorem dc_M_land_74 : decode bc_M_land 74 = .ok (.iload 6, 2) := by decide +kernel
theorem dc_M_land_76 : decode bc_M_land 76 = .ok (.iload 5, 2) := by decide +kernel
theorem dc_M_land_78 : decode bc_M_land 78 = .ok (.if_icmp .ge 5, 3) := by decide +kernel
theorem dc_M_land_81 : decode bc_M_land 81 = .ok (.iconst 0, 1) := by decide +kernel
theorem dc_M_land_82 : decode bc_M_land 82 = .ok (.ireturn, 1) := by decide +kernel
theorem dc_M_land_83 : decode bc_M_land 83 = .ok (.aload_n 0, 1) := by decide +kernel
theorem dc_M_land_84 : decode bc_M_land 84 = .ok (.getfield 51, 3) := by decide +kernel
theorem dc_M_land_87 : decode bc_M_land 87 = .ok (.aload_n 0, 1) := by decide +kernel
theorem dc_M_land_88 : decode bc_M_land 88 = .ok (.getfield 115, 3) := by decide +kernel
theorem dc_M_land_91 : decode bc_M_land 91 = .ok (.bipush 12, 2) := by decide +kernel
theorem dc_M_land_93 : decode bc_M_land 93 = .ok (.iload_n 1, 1) := by decide +kernel
theorem dc_M_land_94 : decode bc_M_land 94 = .ok (.imul, 1) := by decide +kernel
theorem dc_M_land_95 : decode bc_M_land 95 = .ok (.iload_n 2, 1) := by decide +kernel
theorem dc_M_land_96 : decode bc_M_land 96 = .ok (.iadd, 1) := by decide +kernel
theorem dc_M_land_97 : decode bc_M_land 97 = .ok (.iastore, 1) := by decide +kernel
theorem dc_M_land_98 : decode bc_M_land 98 = .ok (.aload_n 0, 1) := by decide +kernel
theorem dc_M_land_99 : decode bc_M_land 99 = .ok (.getfield 54, 3) := by decide +kernel
theorem dc_M_land_102 : decode bc_M_land 102 = .ok (.aload_n 0, 1) := by decide +kernel
theorem dc_M_land_103 : decode bc_M_land 103 = .ok (.getfield 115, 3) := by decide +kernel
theorem dc_M_land_106 : decode bc_M_land 106 = .ok (.lload_n 3, 1) := by decide +kernel
theorem dc_M_land_107 : decode bc_M_land 107 = .ok (.lastore, 1) := by decide +kernel
theorem dc_M_land_108 : decode bc_M_land 108 = .ok (.aload_n 0, 1) := by decide +kernel
theorem dc_M_land_109 : decode bc_M_land 109 = .ok (.getfield 57, 3) := by decide +kernel
theorem dc_M_land_112 : decode bc_M_land 112 = .ok (.aload_n 0, 1) := by decide +kernel
theorem dc_M_land_113 : decode bc_M_land 113 = .ok (.getfield 115, 3) := by decide +kernel
theorem dc_M_land_116 : decode bc_M_land 116 = .ok (.iload 6, 2) := by decide +kernel
theorem dc_M_land_118 : decode bc_M_land 118 = .ok (.iastore, 1) := by decide +kernel
theorem dc_M_land_119 : decode bc_M_land 119 = .ok (.aload_n 0, 1) := by decide +kernel
theorem dc_M_land_120 : decode bc_M_land 120 = .ok (.dup, 1) := by decide +kernel
theorem dc_M_land_121 : decode bc_M_land 121 = .ok (.getfield 115, 3) := by decide +kernel
theorem dc_M_land_124 : decode bc_M_land 124 = .ok (.iconst 1, 1) := by decide +kernel
theorem dc_M_land_125 : decode bc_M_land 125 = .ok (.iadd, 1) := by decide +kernel
theorem dc_M_land_126 : decode bc_M_land 126 = .ok (.putfield 115, 3) := by decide +kernel
theorem dc_M_land_129 : decode bc_M_land 129 = .ok (.iconst 1, 1) := by decide +kernel
theorem dc_M_land_130 : decode bc_M_land 130 = .ok (.ireturn, 1) := by decide +kernel
theorem dc_M_leftOn_0 : decode bc_M_leftOn 0 = .ok (.aload_n 0, 1) := by decide +kernel
theorem dc_M_leftOn_1 : decode bc_M_leftOn 1 = .ok (.getfield 45, 3) := by decide +kernel
theorem dc_M_leftOn_4 : decode bc_M_leftOn 4 = .ok (.bipush 12, 2) := by decide +kernel
theorem dc_M_leftOn_6 : decode bc_M_leftOn 6 = .ok (.iload_n 1, 1) := by decide +kernel
theorem dc_M_leftOn_7 : decode bc_M_leftOn 7 = .ok (.imul, 1) := by decide +kernel
theorem dc_M_leftOn_8 : decode bc_M_leftOn 8 = .ok (.iload_n 2, 1) := by decide +kernel
theorem dc_M_leftOn_9 : decode bc_M_leftOn 9 = .ok (.iadd, 1) := by decide +kernel
theorem dc_M_leftOn_10 : decode bc_M_leftOn 10 = .ok (.laload, 1) := by decide +kernel
theorem dc_M_leftOn_11 : decode bc_M_leftOn 11 = .ok (.lstore 4, 2) := by decide +kernel
theorem dc_M_leftOn_13 : decode bc_M_leftOn 13 = .ok (.iconst 0, 1) := by decide +kernel
theorem dc_M_leftOn_14 : decode bc_M_leftOn 14 = .ok (.istore 6, 2) := by decide +kernel
theorem dc_M_leftOn_16 : decode bc_M_leftOn 16 = .ok (.iload 6, 2) := by decide +kernel
theorem dc_M_leftOn_18 : decode bc_M_leftOn 18 = .ok (.aload_n 0, 1) := by decide +kernel
theorem dc_M_leftOn_19 : decode bc_M_leftOn 19 = .ok (.getfield 115, 3) := by decide +kernel
theorem dc_M_leftOn_22 : decode bc_M_leftOn 22 = .ok (.if_icmp .ge 53, 3) := by decide +kernel
theorem dc_M_leftOn_25 : decode bc_M_leftOn 25 = .ok (.aload_n 0, 1) := by decide +kernel
theorem dc_M_leftOn_26 : decode bc_M_leftOn 26 = .ok (.getfield 51, 3) := by decide +kernel
theorem dc_M_leftOn_29 : decode bc_M_leftOn 29 = .ok (.iload 6, 2) := by decide +kernel
theorem dc_M_leftOn_31 : decode bc_M_leftOn 31 = .ok (.iaload, 1) := by decide +kernel
theorem dc_M_leftOn_32 : decode bc_M_leftOn 32 = .ok (.bipush 12, 2) := by decide +kernel
theorem dc_M_leftOn_34 : decode bc_M_leftOn 34 = .ok (.iload_n 1, 1) := by decide +kernel
theorem dc_M_leftOn_35 : decode bc_M_leftOn 35 = .ok (.imul, 1) := by decide +kernel
theorem dc_M_leftOn_36 : decode bc_M_leftOn 36 = .ok (.iload_n 2, 1) := by decide +kernel
theorem dc_M_leftOn_37 : decode bc_M_leftOn 37 = .ok (.iadd, 1) := by decide +kernel
theorem dc_M_leftOn_38 : decode bc_M_leftOn 38 = .ok (.if_icmp .ne 27, 3) := by decide +kernel
theorem dc_M_leftOn_41 : decode bc_M_leftOn 41 = .ok (.aload_n 0, 1) := by decide +kernel
theorem dc_M_leftOn_42 : decode bc_M_leftOn 42 = .ok (.getfield 57, 3) := by decide +kernel
theorem dc_M_leftOn_45 : decode bc_M_leftOn 45 = .ok (.iload 6, 2) := by decide +kernel
theorem dc_M_leftOn_47 : decode bc_M_leftOn 47 = .ok (.iaload, 1) := by decide +kernel
theorem dc_M_leftOn_48 : decode bc_M_leftOn 48 = .ok (.iload_n 3, 1) := by decide +kernel
theorem dc_M_leftOn_49 : decode bc_M_leftOn 49 = .ok (.if_icmp .gt 16, 3) := by decide +kernel
theorem dc_M_leftOn_52 : decode bc_M_leftOn 52 = .ok (.lload 4, 2) := by decide +kernel
theorem dc_M_leftOn_54 : decode bc_M_leftOn 54 = .ok (.aload_n 0, 1) := by decide +kernel
theorem dc_M_leftOn_55 : decode bc_M_leftOn 55 = .ok (.getfield 54, 3) := by decide +kernel
theorem dc_M_leftOn_58 : decode bc_M_leftOn 58 = .ok (.iload 6, 2) := by decide +kernel
theorem dc_M_leftOn_60 : decode bc_M_leftOn 60 = .ok (.laload, 1) := by decide +kernel
theorem dc_M_leftOn_61 : decode bc_M_leftOn 61 = .ok (.lsub, 1) := by decide +kernel
theorem dc_M_leftOn_62 : decode bc_M_leftOn 62 = .ok (.goto 5, 3) := by decide +kernel
theorem dc_M_leftOn_65 : decode bc_M_leftOn 65 = .ok (.lload 4, 2) := by decide +kernel
theorem dc_M_leftOn_67 : decode bc_M_leftOn 67 = .ok (.lstore 4, 2) := by decide +kernel
theorem dc_M_leftOn_69 : decode bc_M_leftOn 69 = .ok (.iinc 6 1, 3) := by decide +kernel
theorem dc_M_leftOn_72 : decode bc_M_leftOn 72 = .ok (.goto (-56), 3) := by decide +kernel
theorem dc_M_leftOn_75 : decode bc_M_leftOn 75 = .ok (.lload 4, 2) := by decide +kernel
theorem dc_M_leftOn_77 : decode bc_M_leftOn 77 = .ok (.lreturn, 1) := by decide +kernel
theorem dc_M_leftOf_0 : decode bc_M_leftOf 0 = .ok (.aload_n 0, 1) := by decide +kernel
theorem dc_M_leftOf_1 : decode bc_M_leftOf 1 = .ok (.iload_n 1, 1) := by decide +kernel
theorem dc_M_leftOf_2 : decode bc_M_leftOf 2 = .ok (.iload_n 2, 1) := by decide +kernel
theorem dc_M_leftOf_3 : decode bc_M_leftOf 3 = .ok (.ldc 120, 2) := by decide +kernel
theorem dc_M_leftOf_5 : decode bc_M_leftOf 5 = .ok (.invokevirtual 121, 3) := by decide +kernel
theorem dc_M_leftOf_8 : decode bc_M_leftOf 8 = .ok (.lreturn, 1) := by decide +kernel
theorem dc_M_left_0 : decode bc_M_left 0 = .ok (.aload_n 0, 1) := by decide +kernel
theorem dc_M_left_1 : decode bc_M_left 1 = .ok (.iload_n 1, 1) := by decide +kernel
theorem dc_M_left_2 : decode bc_M_left 2 = .ok (.invokevirtual 97, 3) := by decide +kernel
theorem dc_M_left_5 : decode bc_M_left 5 = .ok (.ifCond .eq 21, 3) := by decide +kernel
theorem dc_M_left_8 : decode bc_M_left 8 = .ok (.aload_n 0, 1) := by decide +kernel
theorem dc_M_left_9 : decode bc_M_left 9 = .ok (.iload_n 2, 1) := by decide +kernel
theorem dc_M_left_10 : decode bc_M_left 10 = .ok (.invokevirtual 100, 3) := by decide +kernel
theorem dc_M_left_13 : decode bc_M_left 13 = .ok (.ifCond .eq 13, 3) := by decide +kernel
theorem dc_M_left_16 : decode bc_M_left 16 = .ok (.aload_n 0, 1) := by decide +kernel
theorem dc_M_left_17 : decode bc_M_left 17 = .ok (.iload_n 1, 1) := by decide +kernel
theorem dc_M_left_18 : decode bc_M_left 18 = .ok (.iload_n 2, 1) := by decide +kernel
theorem dc_M_left_19 : decode bc_M_left 19 = .ok (.iload_n 3, 1) := by decide +kernel
theorem dc_M_left_20 : decode bc_M_left 20 = .ok (.invokevirtual 121, 3) := by decide +kernel
theorem dc_M_left_23 : decode bc_M_left 23 = .ok (.goto 6, 3) := by decide +kernel
theorem dc_M_left_26 : decode bc_M_left 26 = .ok (.ldc2_w 109, 3) := by decide +kernel
theorem dc_M_left_29 : decode bc_M_left 29 = .ok (.lreturn, 1) := by decide +kernel
theorem dc_M_overOf_0 : decode bc_M_overOf 0 = .ok (.aload_n 0, 1) := by decide +kernel
theorem dc_M_overOf_1 : decode bc_M_overOf 1 = .ok (.iload_n 1, 1) := by decide +kernel
theorem dc_M_overOf_2 : decode bc_M_overOf 2 = .ok (.iload_n 2, 1) := by decide +kernel
theorem dc_M_overOf_3 : decode bc_M_overOf 3 = .ok (.invokevirtual 125, 3) := by decide +kernel
theorem dc_M_overOf_6 : decode bc_M_overOf 6 = .ok (.lstore_n 3, 1) := by decide +kernel
theorem dc_M_overOf_7 : decode bc_M_overOf 7 = .ok (.lload_n 3, 1) := by decide +kernel
theorem dc_M_overOf_8 : decode bc_M_overOf 8 = .ok (.lconst 0, 1) := by decide +kernel
theorem dc_M_overOf_9 : decode bc_M_overOf 9 = .ok (.lcmp, 1) := by decide +kernel
theorem dc_M_overOf_10 : decode bc_M_overOf 10 = .ok (.ifCond .ge 8, 3) := by decide +kernel
theorem dc_M_overOf_13 : decode bc_M_overOf 13 = .ok (.lload_n 3, 1) := by decide +kernel
theorem dc_M_overOf_14 : decode bc_M_overOf 14 = .ok (.lneg, 1) := by decide +kernel
theorem dc_M_overOf_15 : decode bc_M_overOf 15 = .ok (.goto 4, 3) := by decide +kernel
theorem dc_M_overOf_18 : decode bc_M_overOf 18 = .ok (.lconst 0, 1) := by decide +kernel
theorem dc_M_overOf_19 : decode bc_M_overOf 19 = .ok (.lreturn, 1) := by decide +kernel
theorem dc_M_carriedOf_0 : decode bc_M_carriedOf 0 = .ok (.aload_n 0, 1) := by decide +kernel
theorem dc_M_carriedOf_1 : decode bc_M_carriedOf 1 = .ok (.iload_n 1, 1) := by decide +kernel
theorem dc_M_carriedOf_2 : decode bc_M_carriedOf 2 = .ok (.iload_n 2, 1) := by decide +kernel
theorem dc_M_carriedOf_3 : decode bc_M_carriedOf 3 = .ok (.invokevirtual 128, 3) := by decide +kernel
theorem dc_M_carriedOf_6 : decode bc_M_carriedOf 6 = .ok (.lstore_n 3, 1) := by decide +kernel
theorem dc_M_carriedOf_7 : decode bc_M_carriedOf 7 = .ok (.lload_n 3, 1) := by decide +kernel
theorem dc_M_carriedOf_8 : decode bc_M_carriedOf 8 = .ok (.lconst 0, 1) := by decide +kernel
theorem dc_M_carriedOf_9 : decode bc_M_carriedOf 9 = .ok (.lcmp, 1) := by decide +kernel
theorem dc_M_carriedOf_10 : decode bc_M_carriedOf 10 = .ok (.ifCond .le 26, 3) := by decide +kernel
theorem dc_M_carriedOf_13 : decode bc_M_carriedOf 13 = .ok (.lload_n 3, 1) := by decide +kernel
theorem dc_M_carriedOf_14 : decode bc_M_carriedOf 14 = .ok (.aload_n 0, 1) := by decide +kernel
theorem dc_M_carriedOf_15 : decode bc_M_carriedOf 15 = .ok (.getfield 60, 3) := by decide +kernel
theorem dc_M_carriedOf_18 : decode bc_M_carriedOf 18 = .ok (.i2l, 1) := by decide +kernel
theorem dc_M_carriedOf_19 : decode bc_M_carriedOf 19 = .ok (.lmul, 1) := by decide +kernel
theorem dc_M_carriedOf_20 : decode bc_M_carriedOf 20 = .ok (.aload_n 0, 1) := by decide +kernel
theorem dc_M_carriedOf_21 : decode bc_M_carriedOf 21 = .ok (.getfield 64, 3) := by decide +kernel
theorem dc_M_carriedOf_24 : decode bc_M_carriedOf 24 = .ok (.i2l, 1) := by decide +kernel
theorem dc_M_carriedOf_25 : decode bc_M_carriedOf 25 = .ok (.ladd, 1) := by decide +kernel
theorem dc_M_carriedOf_26 : decode bc_M_carriedOf 26 = .ok (.lconst 1, 1) := by decide +kernel
theorem dc_M_carriedOf_27 : decode bc_M_carriedOf 27 = .ok (.lsub, 1) := by decide +kernel
theorem dc_M_carriedOf_28 : decode bc_M_carriedOf 28 = .ok (.aload_n 0, 1) := by decide +kernel
theorem dc_M_carriedOf_29 : decode bc_M_carriedOf 29 = .ok (.getfield 64, 3) := by decide +kernel
theorem dc_M_carriedOf_32 : decode bc_M_carriedOf 32 = .ok (.i2l, 1) := by decide +kernel
theorem dc_M_carriedOf_33 : decode bc_M_carriedOf 33 = .ok (.ldiv, 1) := by decide +kernel
theorem dc_M_carriedOf_34 : decode bc_M_carriedOf 34 = .ok (.lneg, 1) := by decide +kernel
theorem dc_M_carriedOf_35 : decode bc_M_carriedOf 35 = .ok (.lreturn, 1) := by decide +kernel
theorem dc_M_carriedOf_36 : decode bc_M_carriedOf 36 = .ok (.aload_n 0, 1) := by decide +kernel
theorem dc_M_carriedOf_37 : decode bc_M_carriedOf 37 = .ok (.iload_n 1, 1) := by decide +kernel
theorem dc_M_carriedOf_38 : decode bc_M_carriedOf 38 = .ok (.iload_n 2, 1) := by decide +kernel
theorem dc_M_carriedOf_39 : decode bc_M_carriedOf 39 = .ok (.invokevirtual 125, 3) := by decide +kernel
theorem dc_M_carriedOf_42 : decode bc_M_carriedOf 42 = .ok (.lstore 5, 2) := by decide +kernel
theorem dc_M_carriedOf_44 : decode bc_M_carriedOf 44 = .ok (.aload_n 0, 1) := by decide +kernel
theorem dc_M_carriedOf_45 : decode bc_M_carriedOf 45 = .ok (.getfield 45, 3) := by decide +kernel
theorem dc_M_carriedOf_48 : decode bc_M_carriedOf 48 = .ok (.bipush 12, 2) := by decide +kernel
theorem dc_M_carriedOf_50 : decode bc_M_carriedOf 50 = .ok (.iload_n 1, 1) := by decide +kernel
theorem dc_M_carriedOf_51 : decode bc_M_carriedOf 51 = .ok (.imul, 1) := by decide +kernel
theorem dc_M_carriedOf_52 : decode bc_M_carriedOf 52 = .ok (.iload_n 2, 1) := by decide +kernel
theorem dc_M_carriedOf_53 : decode bc_M_carriedOf 53 = .ok (.iadd, 1) := by decide +kernel
theorem dc_M_carriedOf_54 : decode bc_M_carriedOf 54 = .ok (.laload, 1) := by decide +kernel
theorem dc_M_carriedOf_55 : decode bc_M_carriedOf 55 = .ok (.ldc2_w 131, 3) := by decide +kernel
theorem dc_M_carriedOf_58 : decode bc_M_carriedOf 58 = .ok (.ldiv, 1) := by decide +kernel
theorem dc_M_carriedOf_59 : decode bc_M_carriedOf 59 = .ok (.lstore 7, 2) := by decide +kernel
theorem dc_M_carriedOf_61 : decode bc_M_carriedOf 61 = .ok (.lload 5, 2) := by decide +kernel
theorem dc_M_carriedOf_63 : decode bc_M_carriedOf 63 = .ok (.lload 7, 2) := by decide +kernel
theorem dc_M_carriedOf_65 : decode bc_M_carriedOf 65 = .ok (.lcmp, 1) := by decide +kernel
theorem dc_M_carriedOf_66 : decode bc_M_carriedOf 66 = .ok (.ifCond .ge 8, 3) := by decide +kernel
theorem dc_M_carriedOf_69 : decode bc_M_carriedOf 69 = .ok (.lload 5, 2) := by decide +kernel
theorem dc_M_carriedOf_71 : decode bc_M_carriedOf 71 = .ok (.goto 5, 3) := by decide +kernel
theorem dc_M_carriedOf_74 : decode bc_M_carriedOf 74 = .ok (.lload 7, 2) := by decide +kernel
theorem dc_M_carriedOf_76 : decode bc_M_carriedOf 76 = .ok (.lreturn, 1) := by decide +kernel
theorem dc_M_over_0 : decode bc_M_over 0 = .ok (.aload_n 0, 1) := by decide +kernel
theorem dc_M_over_1 : decode bc_M_over 1 = .ok (.iload_n 1, 1) := by decide +kernel
theorem dc_M_over_2 : decode bc_M_over 2 = .ok (.invokevirtual 97, 3) := by decide +kernel
theorem dc_M_over_5 : decode bc_M_over 5 = .ok (.ifCond .eq 20, 3) := by decide +kernel
theorem dc_M_over_8 : decode bc_M_over 8 = .ok (.aload_n 0, 1) := by decide +kernel
theorem dc_M_over_9 : decode bc_M_over 9 = .ok (.iload_n 2, 1) := by decide +kernel
theorem dc_M_over_10 : decode bc_M_over 10 = .ok (.invokevirtual 100, 3) := by decide +kernel
theorem dc_M_over_13 : decode bc_M_over 13 = .ok (.ifCond .eq 12, 3) := by decide +kernel
theorem dc_M_over_16 : decode bc_M_over 16 = .ok (.aload_n 0, 1) := by decide +kernel
theorem dc_M_over_17 : decode bc_M_over 17 = .ok (.iload_n 1, 1) := by decide +kernel
theorem dc_M_over_18 : decode bc_M_over 18 = .ok (.iload_n 2, 1) := by decide +kernel
theorem dc_M_over_19 : decode bc_M_over 19 = .ok (.invokevirtual 128, 3) := by decide +kernel
theorem dc_M_over_22 : decode bc_M_over 22 = .ok (.goto 6, 3) := by decide +kernel
theorem dc_M_over_25 : decode bc_M_over 25 = .ok (.ldc2_w 109, 3) := by decide +kernel
theorem dc_M_over_28 : decode bc_M_over 28 = .ok (.lreturn, 1) := by decide +kernel
theorem dc_M_carried_0 : decode bc_M_carried 0 = .ok (.aload_n 0, 1) := by decide +kernel
theorem dc_M_carried_1 : decode bc_M_carried 1 = .ok (.iload_n 1, 1) := by decide +kernel
theorem dc_M_carried_2 : decode bc_M_carried 2 = .ok (.invokevirtual 97, 3) := by decide +kernel
theorem dc_M_carried_5 : decode bc_M_carried 5 = .ok (.ifCond .eq 20, 3) := by decide +kernel
theorem dc_M_carried_8 : decode bc_M_carried 8 = .ok (.aload_n 0, 1) := by decide +kernel
theorem dc_M_carried_9 : decode bc_M_carried 9 = .ok (.iload_n 2, 1) := by decide +kernel
theorem dc_M_carried_10 : decode bc_M_carried 10 = .ok (.invokevirtual 100, 3) := by decide +kernel
theorem dc_M_carried_13 : decode bc_M_carried 13 = .ok (.ifCond .eq 12, 3) := by decide +kernel
theorem dc_M_carried_16 : decode bc_M_carried 16 = .ok (.aload_n 0, 1) := by decide +kernel
theorem dc_M_carried_17 : decode bc_M_carried 17 = .ok (.iload_n 1, 1) := by decide +kernel
theorem dc_M_carried_18 : decode bc_M_carried 18 = .ok (.iload_n 2, 1) := by decide +kernel
theorem dc_M_carried_19 : decode bc_M_carried 19 = .ok (.invokevirtual 111, 3) := by decide +kernel
theorem dc_M_carried_22 : decode bc_M_carried 22 = .ok (.goto 6, 3) := by decide +kernel
theorem dc_M_carried_25 : decode bc_M_carried 25 = .ok (.ldc2_w 109, 3) := by decide +kernel
theorem dc_M_carried_28 : decode bc_M_carried 28 = .ok (.lreturn, 1) := by decide +kernel
theorem dc_M_penalty_0 : decode bc_M_penalty 0 = .ok (.iload_n 1, 1) := by decide +kernel
theorem dc_M_penalty_1 : decode bc_M_penalty 1 = .ok (.i2l, 1) := by decide +kernel
theorem dc_M_penalty_2 : decode bc_M_penalty 2 = .ok (.lconst 1, 1) := by decide +kernel
theorem dc_M_penalty_3 : decode bc_M_penalty 3 = .ok (.ldc2_w 133, 3) := by decide +kernel
theorem dc_M_penalty_6 : decode bc_M_penalty 6 = .ok (.invokestatic 82, 3) := by decide +kernel
theorem dc_M_penalty_9 : decode bc_M_penalty 9 = .ok (.ifCond .eq 15, 3) := by decide +kernel
theorem dc_M_penalty_12 : decode bc_M_penalty 12 = .ok (.iload_n 2, 1) := by decide +kernel
theorem dc_M_penalty_13 : decode bc_M_penalty 13 = .ok (.i2l, 1) := by decide +kernel
theorem dc_M_penalty_14 : decode bc_M_penalty 14 = .ok (.lconst 1, 1) := by decide +kernel
theorem dc_M_penalty_15 : decode bc_M_penalty 15 = .ok (.ldc2_w 133, 3) := by decide +kernel
theorem dc_M_penalty_18 : decode bc_M_penalty 18 = .ok (.invokestatic 82, 3) := by decide +kernel
theorem dc_M_penalty_21 : decode bc_M_penalty 21 = .ok (.ifCond .ne 5, 3) := by decide +kernel
theorem dc_M_penalty_24 : decode bc_M_penalty 24 = .ok (.iconst 0, 1) := by decide +kernel
theorem dc_M_penalty_25 : decode bc_M_penalty 25 = .ok (.ireturn, 1) := by decide +kernel
theorem dc_M_penalty_26 : decode bc_M_penalty 26 = .ok (.aload_n 0, 1) := by decide +kernel
theorem dc_M_penalty_27 : decode bc_M_penalty 27 = .ok (.iload_n 1, 1) := by decide +kernel
theorem dc_M_penalty_28 : decode bc_M_penalty 28 = .ok (.putfield 60, 3) := by decide +kernel
theorem dc_M_penalty_31 : decode bc_M_penalty 31 = .ok (.aload_n 0, 1) := by decide +kernel
theorem dc_M_penalty_32 : decode bc_M_penalty 32 = .ok (.iload_n 2, 1) := by decide +kernel
theorem dc_M_penalty_33 : decode bc_M_penalty 33 = .ok (.putfield 64, 3) := by decide +kernel
theorem dc_M_penalty_36 : decode bc_M_penalty 36 = .ok (.iconst 1, 1) := by decide +kernel
theorem dc_M_penalty_37 : decode bc_M_penalty 37 = .ok (.ireturn, 1) := by decide +kernel
theorem dc_M_transfer_0 : decode bc_M_transfer 0 = .ok (.aload_n 0, 1) := by decide +kernel
theorem dc_M_transfer_1 : decode bc_M_transfer 1 = .ok (.iload_n 1, 1) := by decide +kernel
theorem dc_M_transfer_2 : decode bc_M_transfer 2 = .ok (.invokevirtual 97, 3) := by decide +kernel
theorem dc_M_transfer_5 : decode bc_M_transfer 5 = .ok (.ifCond .eq 45, 3) := by decide +kernel
theorem dc_M_transfer_8 : decode bc_M_transfer 8 = .ok (.aload_n 0, 1) := by decide +kernel
theorem dc_M_transfer_9 : decode bc_M_transfer 9 = .ok (.iload_n 2, 1) := by decide +kernel
theorem dc_M_transfer_10 : decode bc_M_transfer 10 = .ok (.invokevirtual 100, 3) := by decide +kernel
theorem dc_M_transfer_13 : decode bc_M_transfer 13 = .ok (.ifCond .eq 37, 3) := by decide +kernel
theorem dc_M_transfer_16 : decode bc_M_transfer 16 = .ok (.aload_n 0, 1) := by decide +kernel
theorem dc_M_transfer_17 : decode bc_M_transfer 17 = .ok (.iload_n 3, 1) := by decide +kernel
theorem dc_M_transfer_18 : decode bc_M_transfer 18 = .ok (.invokevirtual 100, 3) := by decide +kernel
theorem dc_M_transfer_21 : decode bc_M_transfer 21 = .ok (.ifCond .eq 29, 3) := by decide +kernel
theorem dc_M_transfer_24 : decode bc_M_transfer 24 = .ok (.iload_n 2, 1) := by decide +kernel
theorem dc_M_transfer_25 : decode bc_M_transfer 25 = .ok (.iload_n 3, 1) := by decide +kernel
theorem dc_M_transfer_26 : decode bc_M_transfer 26 = .ok (.if_icmp .eq 24, 3) := by decide +kernel
theorem dc_M_transfer_29 : decode bc_M_transfer 29 = .ok (.aload_n 0, 1) := by decide +kernel
theorem dc_M_transfer_30 : decode bc_M_transfer 30 = .ok (.getfield 20, 3) := by decide +kernel
theorem dc_M_transfer_33 : decode bc_M_transfer 33 = .ok (.iload_n 1, 1) := by decide +kernel
theorem dc_M_transfer_34 : decode bc_M_transfer 34 = .ok (.baload, 1) := by decide +kernel
theorem dc_M_transfer_35 : decode bc_M_transfer 35 = .ok (.ifCond .eq 15, 3) := by decide +kernel
theorem dc_M_transfer_38 : decode bc_M_transfer 38 = .ok (.lload 4, 2) := by decide +kernel
theorem dc_M_transfer_40 : decode bc_M_transfer 40 = .ok (.lconst 1, 1) := by decide +kernel
theorem dc_M_transfer_41 : decode bc_M_transfer 41 = .ok (.ldc2_w 91, 3) := by decide +kernel
theorem dc_M_transfer_44 : decode bc_M_transfer 44 = .ok (.invokestatic 82, 3) := by decide +kernel
theorem dc_M_transfer_47 : decode bc_M_transfer 47 = .ok (.ifCond .ne 5, 3) := by decide +kernel
theorem dc_M_transfer_50 : decode bc_M_transfer 50 = .ok (.iconst (-1), 1) := by decide +kernel
theorem dc_M_transfer_51 : decode bc_M_transfer 51 = .ok (.ireturn, 1) := by decide +kernel
theorem dc_M_transfer_52 : decode bc_M_transfer 52 = .ok (.aload_n 0, 1) := by decide +kernel
theorem dc_M_transfer_53 : decode bc_M_transfer 53 = .ok (.iload_n 1, 1) := by decide +kernel
theorem dc_M_transfer_54 : decode bc_M_transfer 54 = .ok (.iload_n 2, 1) := by decide +kernel
theorem dc_M_transfer_55 : decode bc_M_transfer 55 = .ok (.invokevirtual 125, 3) := by decide +kernel
theorem dc_M_transfer_58 : decode bc_M_transfer 58 = .ok (.lload 4, 2) := by decide +kernel
theorem dc_M_transfer_60 : decode bc_M_transfer 60 = .ok (.lcmp, 1) := by decide +kernel
theorem dc_M_transfer_61 : decode bc_M_transfer 61 = .ok (.ifCond .ge 5, 3) := by decide +kernel
theorem dc_M_transfer_64 : decode bc_M_transfer 64 = .ok (.iconst 1, 1) := by decide +kernel
theorem dc_M_transfer_65 : decode bc_M_transfer 65 = .ok (.ireturn, 1) := by decide +kernel
theorem dc_M_transfer_66 : decode bc_M_transfer 66 = .ok (.aload_n 0, 1) := by decide +kernel
theorem dc_M_transfer_67 : decode bc_M_transfer 67 = .ok (.getfield 45, 3) := by decide +kernel
theorem dc_M_transfer_70 : decode bc_M_transfer 70 = .ok (.bipush 12, 2) := by decide +kernel
theorem dc_M_transfer_72 : decode bc_M_transfer 72 = .ok (.iload_n 1, 1) := by decide +kernel
theorem dc_M_transfer_73 : decode bc_M_transfer 73 = .ok (.imul, 1) := by decide +kernel
theorem dc_M_transfer_74 : decode bc_M_transfer 74 = .ok (.iload_n 2, 1) := by decide +kernel
theorem dc_M_transfer_75 : decode bc_M_transfer 75 = .ok (.iadd, 1) := by decide +kernel
theorem dc_M_transfer_76 : decode bc_M_transfer 76 = .ok (.aload_n 0, 1) := by decide +kernel
theorem dc_M_transfer_77 : decode bc_M_transfer 77 = .ok (.getfield 45, 3) := by decide +kernel
theorem dc_M_transfer_80 : decode bc_M_transfer 80 = .ok (.bipush 12, 2) := by decide +kernel
theorem dc_M_transfer_82 : decode bc_M_transfer 82 = .ok (.iload_n 1, 1) := by decide +kernel
theorem dc_M_transfer_83 : decode bc_M_transfer 83 = .ok (.imul, 1) := by decide +kernel
theorem dc_M_transfer_84 : decode bc_M_transfer 84 = .ok (.iload_n 2, 1) := by decide +kernel
theorem dc_M_transfer_85 : decode bc_M_transfer 85 = .ok (.iadd, 1) := by decide +kernel
theorem dc_M_transfer_86 : decode bc_M_transfer 86 = .ok (.laload, 1) := by decide +kernel
theorem dc_M_transfer_87 : decode bc_M_transfer 87 = .ok (.lload 4, 2) := by decide +kernel
theorem dc_M_transfer_89 : decode bc_M_transfer 89 = .ok (.lsub, 1) := by decide +kernel
theorem dc_M_transfer_90 : decode bc_M_transfer 90 = .ok (.lastore, 1) := by decide +kernel
theorem dc_M_transfer_91 : decode bc_M_transfer 91 = .ok (.aload_n 0, 1) := by decide +kernel
theorem dc_M_transfer_92 : decode bc_M_transfer 92 = .ok (.getfield 45, 3) := by decide +kernel
theorem dc_M_transfer_95 : decode bc_M_transfer 95 = .ok (.bipush 12, 2) := by decide +kernel
theorem dc_M_transfer_97 : decode bc_M_transfer 97 = .ok (.iload_n 1, 1) := by decide +kernel
theorem dc_M_transfer_98 : decode bc_M_transfer 98 = .ok (.imul, 1) := by decide +kernel
theorem dc_M_transfer_99 : decode bc_M_transfer 99 = .ok (.iload_n 3, 1) := by decide +kernel
theorem dc_M_transfer_100 : decode bc_M_transfer 100 = .ok (.iadd, 1) := by decide +kernel
theorem dc_M_transfer_101 : decode bc_M_transfer 101 = .ok (.aload_n 0, 1) := by decide +kernel
theorem dc_M_transfer_102 : decode bc_M_transfer 102 = .ok (.getfield 45, 3) := by decide +kernel
theorem dc_M_transfer_105 : decode bc_M_transfer 105 = .ok (.bipush 12, 2) := by decide +kernel
theorem dc_M_transfer_107 : decode bc_M_transfer 107 = .ok (.iload_n 1, 1) := by decide +kernel
theorem dc_M_transfer_108 : decode bc_M_transfer 108 = .ok (.imul, 1) := by decide +kernel
theorem dc_M_transfer_109 : decode bc_M_transfer 109 = .ok (.iload_n 3, 1) := by decide +kernel
theorem dc_M_transfer_110 : decode bc_M_transfer 110 = .ok (.iadd, 1) := by decide +kernel
theorem dc_M_transfer_111 : decode bc_M_transfer 111 = .ok (.laload, 1) := by decide +kernel
theorem dc_M_transfer_112 : decode bc_M_transfer 112 = .ok (.lload 4, 2) := by decide +kernel
theorem dc_M_transfer_114 : decode bc_M_transfer 114 = .ok (.ladd, 1) := by decide +kernel
theorem dc_M_transfer_115 : decode bc_M_transfer 115 = .ok (.lastore, 1) := by decide +kernel
theorem dc_M_transfer_116 : decode bc_M_transfer 116 = .ok (.iconst 0, 1) := by decide +kernel
theorem dc_M_transfer_117 : decode bc_M_transfer 117 = .ok (.ireturn, 1) := by decide +kernel
theorem dc_M_swap_0 : decode bc_M_swap 0 = .ok (.aload_n 0, 1) := by decide +kernel
theorem dc_M_swap_1 : decode bc_M_swap 1 = .ok (.iload_n 1, 1) := by decide +kernel
theorem dc_M_swap_2 : decode bc_M_swap 2 = .ok (.invokevirtual 97, 3) := by decide +kernel
theorem dc_M_swap_5 : decode bc_M_swap 5 = .ok (.ifCond .eq 43, 3) := by decide +kernel
theorem dc_M_swap_8 : decode bc_M_swap 8 = .ok (.aload_n 0, 1) := by decide +kernel
theorem dc_M_swap_9 : decode bc_M_swap 9 = .ok (.iload_n 2, 1) := by decide +kernel
theorem dc_M_swap_10 : decode bc_M_swap 10 = .ok (.invokevirtual 97, 3) := by decide +kernel
theorem dc_M_swap_13 : decode bc_M_swap 13 = .ok (.ifCond .eq 35, 3) := by decide +kernel
theorem dc_M_swap_16 : decode bc_M_swap 16 = .ok (.aload_n 0, 1) := by decide +kernel
theorem dc_M_swap_17 : decode bc_M_swap 17 = .ok (.iload 5, 2) := by decide +kernel
theorem dc_M_swap_19 : decode bc_M_swap 19 = .ok (.invokevirtual 100, 3) := by decide +kernel
theorem dc_M_swap_22 : decode bc_M_swap 22 = .ok (.ifCond .eq 26, 3) := by decide +kernel
theorem dc_M_swap_25 : decode bc_M_swap 25 = .ok (.iload_n 1, 1) := by decide +kernel
theorem dc_M_swap_26 : decode bc_M_swap 26 = .ok (.iload_n 2, 1) := by decide +kernel
theorem dc_M_swap_27 : decode bc_M_swap 27 = .ok (.if_icmp .eq 21, 3) := by decide +kernel
theorem dc_M_swap_30 : decode bc_M_swap 30 = .ok (.aload_n 0, 1) := by decide +kernel
theorem dc_M_swap_31 : decode bc_M_swap 31 = .ok (.getfield 20, 3) := by decide +kernel
theorem dc_M_swap_34 : decode bc_M_swap 34 = .ok (.iload_n 1, 1) := by decide +kernel
theorem dc_M_swap_35 : decode bc_M_swap 35 = .ok (.baload, 1) := by decide +kernel
theorem dc_M_swap_36 : decode bc_M_swap 36 = .ok (.ifCond .eq 12, 3) := by decide +kernel
theorem dc_M_swap_39 : decode bc_M_swap 39 = .ok (.aload_n 0, 1) := by decide +kernel
theorem dc_M_swap_40 : decode bc_M_swap 40 = .ok (.getfield 20, 3) := by decide +kernel
theorem dc_M_swap_43 : decode bc_M_swap 43 = .ok (.iload_n 2, 1) := by decide +kernel
theorem dc_M_swap_44 : decode bc_M_swap 44 = .ok (.baload, 1) := by decide +kernel
theorem dc_M_swap_45 : decode bc_M_swap 45 = .ok (.ifCond .ne 5, 3) := by decide +kernel
theorem dc_M_swap_48 : decode bc_M_swap 48 = .ok (.iconst (-1), 1) := by decide +kernel
theorem dc_M_swap_49 : decode bc_M_swap 49 = .ok (.ireturn, 1) := by decide +kernel
theorem dc_M_swap_50 : decode bc_M_swap 50 = .ok (.iload_n 3, 1) := by decide +kernel
theorem dc_M_swap_51 : decode bc_M_swap 51 = .ok (.i2l, 1) := by decide +kernel
theorem dc_M_swap_52 : decode bc_M_swap 52 = .ok (.lconst 1, 1) := by decide +kernel
theorem dc_M_swap_53 : decode bc_M_swap 53 = .ok (.ldc2_w 133, 3) := by decide +kernel
theorem dc_M_swap_56 : decode bc_M_swap 56 = .ok (.invokestatic 82, 3) := by decide +kernel
theorem dc_M_swap_59 : decode bc_M_swap 59 = .ok (.ifCond .eq 28, 3) := by decide +kernel
theorem dc_M_swap_62 : decode bc_M_swap 62 = .ok (.iload 4, 2) := by decide +kernel
theorem dc_M_swap_64 : decode bc_M_swap 64 = .ok (.i2l, 1) := by decide +kernel
theorem dc_M_swap_65 : decode bc_M_swap 65 = .ok (.lconst 1, 1) := by decide +kernel
theorem dc_M_swap_66 : decode bc_M_swap 66 = .ok (.ldc2_w 133, 3) := by decide +kernel
theorem dc_M_swap_69 : decode bc_M_swap 69 = .ok (.invokestatic 82, 3) := by decide +kernel
theorem dc_M_swap_72 : decode bc_M_swap 72 = .ok (.ifCond .eq 15, 3) := by decide +kernel
theorem dc_M_swap_75 : decode bc_M_swap 75 = .ok (.lload 6, 2) := by decide +kernel
theorem dc_M_swap_77 : decode bc_M_swap 77 = .ok (.lconst 1, 1) := by decide +kernel
theorem dc_M_swap_78 : decode bc_M_swap 78 = .ok (.ldc2_w 91, 3) := by decide +kernel
theorem dc_M_swap_81 : decode bc_M_swap 81 = .ok (.invokestatic 82, 3) := by decide +kernel
theorem dc_M_swap_84 : decode bc_M_swap 84 = .ok (.ifCond .ne 5, 3) := by decide +kernel
theorem dc_M_swap_87 : decode bc_M_swap 87 = .ok (.iconst (-1), 1) := by decide +kernel
theorem dc_M_swap_88 : decode bc_M_swap 88 = .ok (.ireturn, 1) := by decide +kernel
theorem dc_M_swap_89 : decode bc_M_swap 89 = .ok (.aload_n 0, 1) := by decide +kernel
theorem dc_M_swap_90 : decode bc_M_swap 90 = .ok (.iload_n 1, 1) := by decide +kernel
theorem dc_M_swap_91 : decode bc_M_swap 91 = .ok (.iload 5, 2) := by decide +kernel
theorem dc_M_swap_93 : decode bc_M_swap 93 = .ok (.invokevirtual 125, 3) := by decide +kernel
theorem dc_M_swap_96 : decode bc_M_swap 96 = .ok (.lload 6, 2) := by decide +kernel
theorem dc_M_swap_98 : decode bc_M_swap 98 = .ok (.lcmp, 1) := by decide +kernel
theorem dc_M_swap_99 : decode bc_M_swap 99 = .ok (.ifCond .ge 5, 3) := by decide +kernel
theorem dc_M_swap_102 : decode bc_M_swap 102 = .ok (.iconst 1, 1) := by decide +kernel
theorem dc_M_swap_103 : decode bc_M_swap 103 = .ok (.ireturn, 1) := by decide +kernel
theorem dc_M_swap_104 : decode bc_M_swap 104 = .ok (.lload 6, 2) := by decide +kernel
theorem dc_M_swap_106 : decode bc_M_swap 106 = .ok (.iload_n 3, 1) := by decide +kernel
theorem dc_M_swap_107 : decode bc_M_swap 107 = .ok (.i2l, 1) := by decide +kernel
theorem dc_M_swap_108 : decode bc_M_swap 108 = .ok (.lmul, 1) := by decide +kernel
theorem dc_M_swap_109 : decode bc_M_swap 109 = .ok (.lstore 8, 2) := by decide +kernel
theorem dc_M_swap_111 : decode bc_M_swap 111 = .ok (.lload 8, 2) := by decide +kernel
theorem dc_M_swap_113 : decode bc_M_swap 113 = .ok (.iload 4, 2) := by decide +kernel
theorem dc_M_swap_115 : decode bc_M_swap 115 = .ok (.i2l, 1) := by decide +kernel
theorem dc_M_swap_116 : decode bc_M_swap 116 = .ok (.lrem, 1) := by decide +kernel
theorem dc_M_swap_117 : decode bc_M_swap 117 = .ok (.lconst 0, 1) := by decide +kernel
theorem dc_M_swap_118 : decode bc_M_swap 118 = .ok (.lcmp, 1) := by decide +kernel
theorem dc_M_swap_119 : decode bc_M_swap 119 = .ok (.ifCond .ne 31, 3) := by decide +kernel
theorem dc_M_swap_122 : decode bc_M_swap 122 = .ok (.lload 8, 2) := by decide +kernel
theorem dc_M_swap_124 : decode bc_M_swap 124 = .ok (.iload 4, 2) := by decide +kernel
theorem dc_M_swap_126 : decode bc_M_swap 126 = .ok (.i2l, 1) := by decide +kernel
theorem dc_M_swap_127 : decode bc_M_swap 127 = .ok (.lcmp, 1) := by decide +kernel
theorem dc_M_swap_128 : decode bc_M_swap 128 = .ok (.ifCond .lt 22, 3) := by decide +kernel
theorem dc_M_swap_131 : decode bc_M_swap 131 = .ok (.aload_n 0, 1) := by decide +kernel
theorem dc_M_swap_132 : decode bc_M_swap 132 = .ok (.iload_n 2, 1) := by decide +kernel
theorem dc_M_swap_133 : decode bc_M_swap 133 = .ok (.invokevirtual 135, 3) := by decide +kernel
theorem dc_M_swap_136 : decode bc_M_swap 136 = .ok (.lload 8, 2) := by decide +kernel
theorem dc_M_swap_138 : decode bc_M_swap 138 = .ok (.iload 4, 2) := by decide +kernel
theorem dc_M_swap_140 : decode bc_M_swap 140 = .ok (.i2l, 1) := by decide +kernel
theorem dc_M_swap_141 : decode bc_M_swap 141 = .ok (.ldiv, 1) := by decide +kernel
theorem dc_M_swap_142 : decode bc_M_swap 142 = .ok (.ladd, 1) := by decide +kernel
theorem dc_M_swap_143 : decode bc_M_swap 143 = .ok (.ldc2_w 138, 3) := by decide +kernel
theorem dc_M_swap_146 : decode bc_M_swap 146 = .ok (.lcmp, 1) := by decide +kernel
theorem dc_M_swap_147 : decode bc_M_swap 147 = .ok (.ifCond .le 5, 3) := by decide +kernel
theorem dc_M_swap_150 : decode bc_M_swap 150 = .ok (.iconst 2, 1) := by decide +kernel
theorem dc_M_swap_151 : decode bc_M_swap 151 = .ok (.ireturn, 1) := by decide +kernel
theorem dc_M_swap_152 : decode bc_M_swap 152 = .ok (.aload_n 0, 1) := by decide +kernel
theorem dc_M_swap_153 : decode bc_M_swap 153 = .ok (.getfield 45, 3) := by decide +kernel
theorem dc_M_swap_156 : decode bc_M_swap 156 = .ok (.bipush 12, 2) := by decide +kernel
theorem dc_M_swap_158 : decode bc_M_swap 158 = .ok (.iload_n 1, 1) := by decide +kernel
theorem dc_M_swap_159 : decode bc_M_swap 159 = .ok (.imul, 1) := by decide +kernel
theorem dc_M_swap_160 : decode bc_M_swap 160 = .ok (.iload 5, 2) := by decide +kernel
theorem dc_M_swap_162 : decode bc_M_swap 162 = .ok (.iadd, 1) := by decide +kernel
theorem dc_M_swap_163 : decode bc_M_swap 163 = .ok (.aload_n 0, 1) := by decide +kernel
theorem dc_M_swap_164 : decode bc_M_swap 164 = .ok (.getfield 45, 3) := by decide +kernel
theorem dc_M_swap_167 : decode bc_M_swap 167 = .ok (.bipush 12, 2) := by decide +kernel
theorem dc_M_swap_169 : decode bc_M_swap 169 = .ok (.iload_n 1, 1) := by decide +kernel
theorem dc_M_swap_170 : decode bc_M_swap 170 = .ok (.imul, 1) := by decide +kernel
theorem dc_M_swap_171 : decode bc_M_swap 171 = .ok (.iload 5, 2) := by decide +kernel
theorem dc_M_swap_173 : decode bc_M_swap 173 = .ok (.iadd, 1) := by decide +kernel
theorem dc_M_swap_174 : decode bc_M_swap 174 = .ok (.laload, 1) := by decide +kernel
theorem dc_M_swap_175 : decode bc_M_swap 175 = .ok (.lload 6, 2) := by decide +kernel
theorem dc_M_swap_177 : decode bc_M_swap 177 = .ok (.lsub, 1) := by decide +kernel
theorem dc_M_swap_178 : decode bc_M_swap 178 = .ok (.lastore, 1) := by decide +kernel
theorem dc_M_swap_179 : decode bc_M_swap 179 = .ok (.aload_n 0, 1) := by decide +kernel
theorem dc_M_swap_180 : decode bc_M_swap 180 = .ok (.getfield 45, 3) := by decide +kernel
theorem dc_M_swap_183 : decode bc_M_swap 183 = .ok (.bipush 12, 2) := by decide +kernel
theorem dc_M_swap_185 : decode bc_M_swap 185 = .ok (.iload_n 2, 1) := by decide +kernel
theorem dc_M_swap_186 : decode bc_M_swap 186 = .ok (.imul, 1) := by decide +kernel
theorem dc_M_swap_187 : decode bc_M_swap 187 = .ok (.iload 5, 2) := by decide +kernel
theorem dc_M_swap_189 : decode bc_M_swap 189 = .ok (.iadd, 1) := by decide +kernel
theorem dc_M_swap_190 : decode bc_M_swap 190 = .ok (.aload_n 0, 1) := by decide +kernel
theorem dc_M_swap_191 : decode bc_M_swap 191 = .ok (.getfield 45, 3) := by decide +kernel
theorem dc_M_swap_194 : decode bc_M_swap 194 = .ok (.bipush 12, 2) := by decide +kernel
theorem dc_M_swap_196 : decode bc_M_swap 196 = .ok (.iload_n 2, 1) := by decide +kernel
theorem dc_M_swap_197 : decode bc_M_swap 197 = .ok (.imul, 1) := by decide +kernel
theorem dc_M_swap_198 : decode bc_M_swap 198 = .ok (.iload 5, 2) := by decide +kernel
theorem dc_M_swap_200 : decode bc_M_swap 200 = .ok (.iadd, 1) := by decide +kernel
theorem dc_M_swap_201 : decode bc_M_swap 201 = .ok (.laload, 1) := by decide +kernel
theorem dc_M_swap_202 : decode bc_M_swap 202 = .ok (.lload 8, 2) := by decide +kernel
theorem dc_M_swap_204 : decode bc_M_swap 204 = .ok (.iload 4, 2) := by decide +kernel
theorem dc_M_swap_206 : decode bc_M_swap 206 = .ok (.i2l, 1) := by decide +kernel
theorem dc_M_swap_207 : decode bc_M_swap 207 = .ok (.ldiv, 1) := by decide +kernel
theorem dc_M_swap_208 : decode bc_M_swap 208 = .ok (.ladd, 1) := by decide +kernel
theorem dc_M_swap_209 : decode bc_M_swap 209 = .ok (.lastore, 1) := by decide +kernel
theorem dc_M_swap_210 : decode bc_M_swap 210 = .ok (.aload_n 0, 1) := by decide +kernel
theorem dc_M_swap_211 : decode bc_M_swap 211 = .ok (.getfield 27, 3) := by decide +kernel
theorem dc_M_swap_214 : decode bc_M_swap 214 = .ok (.iload_n 1, 1) := by decide +kernel
theorem dc_M_swap_215 : decode bc_M_swap 215 = .ok (.aload_n 0, 1) := by decide +kernel
theorem dc_M_swap_216 : decode bc_M_swap 216 = .ok (.getfield 27, 3) := by decide +kernel
theorem dc_M_swap_219 : decode bc_M_swap 219 = .ok (.iload_n 1, 1) := by decide +kernel
theorem dc_M_swap_220 : decode bc_M_swap 220 = .ok (.laload, 1) := by decide +kernel
theorem dc_M_swap_221 : decode bc_M_swap 221 = .ok (.lload 6, 2) := by decide +kernel
theorem dc_M_swap_223 : decode bc_M_swap 223 = .ok (.lsub, 1) := by decide +kernel
theorem dc_M_swap_224 : decode bc_M_swap 224 = .ok (.lastore, 1) := by decide +kernel
theorem dc_M_swap_225 : decode bc_M_swap 225 = .ok (.aload_n 0, 1) := by decide +kernel
theorem dc_M_swap_226 : decode bc_M_swap 226 = .ok (.getfield 27, 3) := by decide +kernel
theorem dc_M_swap_229 : decode bc_M_swap 229 = .ok (.iload_n 2, 1) := by decide +kernel
theorem dc_M_swap_230 : decode bc_M_swap 230 = .ok (.aload_n 0, 1) := by decide +kernel
theorem dc_M_swap_231 : decode bc_M_swap 231 = .ok (.getfield 27, 3) := by decide +kernel
theorem dc_M_swap_234 : decode bc_M_swap 234 = .ok (.iload_n 2, 1) := by decide +kernel
theorem dc_M_swap_235 : decode bc_M_swap 235 = .ok (.laload, 1) := by decide +kernel
theorem dc_M_swap_236 : decode bc_M_swap 236 = .ok (.lload 8, 2) := by decide +kernel
theorem dc_M_swap_238 : decode bc_M_swap 238 = .ok (.iload 4, 2) := by decide +kernel
theorem dc_M_swap_240 : decode bc_M_swap 240 = .ok (.i2l, 1) := by decide +kernel
theorem dc_M_swap_241 : decode bc_M_swap 241 = .ok (.ldiv, 1) := by decide +kernel
theorem dc_M_swap_242 : decode bc_M_swap 242 = .ok (.ladd, 1) := by decide +kernel
theorem dc_M_swap_243 : decode bc_M_swap 243 = .ok (.lastore, 1) := by decide +kernel
theorem dc_M_swap_244 : decode bc_M_swap 244 = .ok (.iconst 0, 1) := by decide +kernel
theorem dc_M_swap_245 : decode bc_M_swap 245 = .ok (.ireturn, 1) := by decide +kernel
theorem dc_M_into_0 : decode bc_M_into 0 = .ok (.aload_n 0, 1) := by decide +kernel
theorem dc_M_into_1 : decode bc_M_into 1 = .ok (.iload_n 1, 1) := by decide +kernel
theorem dc_M_into_2 : decode bc_M_into 2 = .ok (.invokevirtual 100, 3) := by decide +kernel
theorem dc_M_into_5 : decode bc_M_into 5 = .ok (.ifCond .eq 17, 3) := by decide +kernel
theorem dc_M_into_8 : decode bc_M_into 8 = .ok (.iload_n 2, 1) := by decide +kernel
theorem dc_M_into_9 : decode bc_M_into 9 = .ok (.i2l, 1) := by decide +kernel
theorem dc_M_into_10 : decode bc_M_into 10 = .ok (.ldc2_w 109, 3) := by decide +kernel
theorem dc_M_into_13 : decode bc_M_into 13 = .ok (.ldc2_w 140, 3) := by decide +kernel
theorem dc_M_into_16 : decode bc_M_into 16 = .ok (.invokestatic 82, 3) := by decide +kernel
theorem dc_M_into_19 : decode bc_M_into 19 = .ok (.ifCond .ne 5, 3) := by decide +kernel
theorem dc_M_into_22 : decode bc_M_into 22 = .ok (.iconst 0, 1) := by decide +kernel
theorem dc_M_into_23 : decode bc_M_into 23 = .ok (.ireturn, 1) := by decide +kernel
theorem dc_M_into_24 : decode bc_M_into 24 = .ok (.aload_n 0, 1) := by decide +kernel
theorem dc_M_into_25 : decode bc_M_into 25 = .ok (.getfield 39, 3) := by decide +kernel
theorem dc_M_into_28 : decode bc_M_into 28 = .ok (.iload_n 1, 1) := by decide +kernel
theorem dc_M_into_29 : decode bc_M_into 29 = .ok (.iload_n 2, 1) := by decide +kernel
theorem dc_M_into_30 : decode bc_M_into 30 = .ok (.iastore, 1) := by decide +kernel
theorem dc_M_into_31 : decode bc_M_into 31 = .ok (.iconst 1, 1) := by decide +kernel
theorem dc_M_into_32 : decode bc_M_into 32 = .ok (.ireturn, 1) := by decide +kernel
theorem dc_M_pooled_0 : decode bc_M_pooled 0 = .ok (.aload_n 0, 1) := by decide +kernel
theorem dc_M_pooled_1 : decode bc_M_pooled 1 = .ok (.iload_n 1, 1) := by decide +kernel
theorem dc_M_pooled_2 : decode bc_M_pooled 2 = .ok (.invokevirtual 97, 3) := by decide +kernel
theorem dc_M_pooled_5 : decode bc_M_pooled 5 = .ok (.ifCond .eq 15, 3) := by decide +kernel
theorem dc_M_pooled_8 : decode bc_M_pooled 8 = .ok (.iload_n 2, 1) := by decide +kernel
theorem dc_M_pooled_9 : decode bc_M_pooled 9 = .ok (.i2l, 1) := by decide +kernel
theorem dc_M_pooled_10 : decode bc_M_pooled 10 = .ok (.lconst 0, 1) := by decide +kernel
theorem dc_M_pooled_11 : decode bc_M_pooled 11 = .ok (.ldc2_w 140, 3) := by decide +kernel
theorem dc_M_pooled_14 : decode bc_M_pooled 14 = .ok (.invokestatic 82, 3) := by decide +kernel
theorem dc_M_pooled_17 : decode bc_M_pooled 17 = .ok (.ifCond .ne 7, 3) := by decide +kernel
theorem dc_M_pooled_20 : decode bc_M_pooled 20 = .ok (.ldc2_w 109, 3) := by decide +kernel
theorem dc_M_pooled_23 : decode bc_M_pooled 23 = .ok (.lreturn, 1) := by decide +kernel
theorem dc_M_pooled_24 : decode bc_M_pooled 24 = .ok (.lconst 0, 1) := by decide +kernel
theorem dc_M_pooled_25 : decode bc_M_pooled 25 = .ok (.lstore_n 3, 1) := by decide +kernel
theorem dc_M_pooled_26 : decode bc_M_pooled 26 = .ok (.iconst 0, 1) := by decide +kernel
theorem dc_M_pooled_27 : decode bc_M_pooled 27 = .ok (.istore 5, 2) := by decide +kernel
theorem dc_M_pooled_29 : decode bc_M_pooled 29 = .ok (.iload 5, 2) := by decide +kernel
theorem dc_M_pooled_31 : decode bc_M_pooled 31 = .ok (.aload_n 0, 1) := by decide +kernel
theorem dc_M_pooled_32 : decode bc_M_pooled 32 = .ok (.getfield 86, 3) := by decide +kernel
theorem dc_M_pooled_35 : decode bc_M_pooled 35 = .ok (.if_icmp .ge 34, 3) := by decide +kernel
theorem dc_M_pooled_38 : decode bc_M_pooled 38 = .ok (.aload_n 0, 1) := by decide +kernel
theorem dc_M_pooled_39 : decode bc_M_pooled 39 = .ok (.getfield 39, 3) := by decide +kernel
theorem dc_M_pooled_42 : decode bc_M_pooled 42 = .ok (.iload 5, 2) := by decide +kernel
theorem dc_M_pooled_44 : decode bc_M_pooled 44 = .ok (.iaload, 1) := by decide +kernel
theorem dc_M_pooled_45 : decode bc_M_pooled 45 = .ok (.iload_n 2, 1) := by decide +kernel
theorem dc_M_pooled_46 : decode bc_M_pooled 46 = .ok (.if_icmp .ne 15, 3) := by decide +kernel
theorem dc_M_pooled_49 : decode bc_M_pooled 49 = .ok (.lload_n 3, 1) := by decide +kernel
theorem dc_M_pooled_50 : decode bc_M_pooled 50 = .ok (.aload_n 0, 1) := by decide +kernel
theorem dc_M_pooled_51 : decode bc_M_pooled 51 = .ok (.iload_n 1, 1) := by decide +kernel
theorem dc_M_pooled_52 : decode bc_M_pooled 52 = .ok (.iload 5, 2) := by decide +kernel
theorem dc_M_pooled_54 : decode bc_M_pooled 54 = .ok (.invokevirtual 125, 3) := by decide +kernel
theorem dc_M_pooled_57 : decode bc_M_pooled 57 = .ok (.ladd, 1) := by decide +kernel
theorem dc_M_pooled_58 : decode bc_M_pooled 58 = .ok (.goto 4, 3) := by decide +kernel
theorem dc_M_pooled_61 : decode bc_M_pooled 61 = .ok (.lload_n 3, 1) := by decide +kernel
theorem dc_M_pooled_62 : decode bc_M_pooled 62 = .ok (.lstore_n 3, 1) := by decide +kernel
theorem dc_M_pooled_63 : decode bc_M_pooled 63 = .ok (.iinc 5 1, 3) := by decide +kernel
theorem dc_M_pooled_66 : decode bc_M_pooled 66 = .ok (.goto (-37), 3) := by decide +kernel
theorem dc_M_pooled_69 : decode bc_M_pooled 69 = .ok (.lload_n 3, 1) := by decide +kernel
theorem dc_M_pooled_70 : decode bc_M_pooled 70 = .ok (.lreturn, 1) := by decide +kernel
theorem dc_M_reaches_0 : decode bc_M_reaches 0 = .ok (.iconst 0, 1) := by decide +kernel
theorem dc_M_reaches_1 : decode bc_M_reaches 1 = .ok (.istore_n 3, 1) := by decide +kernel
theorem dc_M_reaches_2 : decode bc_M_reaches 2 = .ok (.iload_n 3, 1) := by decide +kernel
theorem dc_M_reaches_3 : decode bc_M_reaches 3 = .ok (.bipush 10, 2) := by decide +kernel
theorem dc_M_reaches_5 : decode bc_M_reaches 5 = .ok (.if_icmp .ge 25, 3) := by decide +kernel
theorem dc_M_reaches_8 : decode bc_M_reaches 8 = .ok (.aload_n 0, 1) := by decide +kernel
theorem dc_M_reaches_9 : decode bc_M_reaches 9 = .ok (.getfield 73, 3) := by decide +kernel
theorem dc_M_reaches_12 : decode bc_M_reaches 12 = .ok (.iload_n 3, 1) := by decide +kernel
theorem dc_M_reaches_13 : decode bc_M_reaches 13 = .ok (.iload_n 3, 1) := by decide +kernel
theorem dc_M_reaches_14 : decode bc_M_reaches 14 = .ok (.iload_n 1, 1) := by decide +kernel
theorem dc_M_reaches_15 : decode bc_M_reaches 15 = .ok (.if_icmp .ne 7, 3) := by decide +kernel
theorem dc_M_reaches_18 : decode bc_M_reaches 18 = .ok (.lconst 1, 1) := by decide +kernel
theorem dc_M_reaches_19 : decode bc_M_reaches 19 = .ok (.goto 4, 3) := by decide +kernel
theorem dc_M_reaches_22 : decode bc_M_reaches 22 = .ok (.lconst 0, 1) := by decide +kernel
theorem dc_M_reaches_23 : decode bc_M_reaches 23 = .ok (.lastore, 1) := by decide +kernel
theorem dc_M_reaches_24 : decode bc_M_reaches 24 = .ok (.iinc 3 1, 3) := by decide +kernel
theorem dc_M_reaches_27 : decode bc_M_reaches 27 = .ok (.goto (-25), 3) := by decide +kernel
theorem dc_M_reaches_30 : decode bc_M_reaches 30 = .ok (.iconst 0, 1) := by decide +kernel
theorem dc_M_reaches_31 : decode bc_M_reaches 31 = .ok (.istore_n 3, 1) := by decide +kernel
theorem dc_M_reaches_32 : decode bc_M_reaches 32 = .ok (.iload_n 3, 1) := by decide +kernel
theorem dc_M_reaches_33 : decode bc_M_reaches 33 = .ok (.bipush 10, 2) := by decide +kernel
theorem dc_M_reaches_35 : decode bc_M_reaches 35 = .ok (.if_icmp .ge 87, 3) := by decide +kernel
theorem dc_M_reaches_38 : decode bc_M_reaches 38 = .ok (.iconst 0, 1) := by decide +kernel
theorem dc_M_reaches_39 : decode bc_M_reaches 39 = .ok (.istore 4, 2) := by decide +kernel
theorem dc_M_reaches_41 : decode bc_M_reaches 41 = .ok (.iload 4, 2) := by decide +kernel
theorem dc_M_reaches_43 : decode bc_M_reaches 43 = .ok (.bipush 10, 2) := by decide +kernel
theorem dc_M_reaches_45 : decode bc_M_reaches 45 = .ok (.if_icmp .ge 71, 3) := by decide +kernel
theorem dc_M_reaches_48 : decode bc_M_reaches 48 = .ok (.iconst 0, 1) := by decide +kernel
theorem dc_M_reaches_49 : decode bc_M_reaches 49 = .ok (.istore 5, 2) := by decide +kernel
theorem dc_M_reaches_51 : decode bc_M_reaches 51 = .ok (.iload 5, 2) := by decide +kernel
theorem dc_M_reaches_53 : decode bc_M_reaches 53 = .ok (.bipush 10, 2) := by decide +kernel
theorem dc_M_reaches_55 : decode bc_M_reaches 55 = .ok (.if_icmp .ge 55, 3) := by decide +kernel
theorem dc_M_reaches_58 : decode bc_M_reaches 58 = .ok (.aload_n 0, 1) := by decide +kernel
theorem dc_M_reaches_59 : decode bc_M_reaches 59 = .ok (.getfield 73, 3) := by decide +kernel
theorem dc_M_reaches_62 : decode bc_M_reaches 62 = .ok (.iload 5, 2) := by decide +kernel
theorem dc_M_reaches_64 : decode bc_M_reaches 64 = .ok (.aload_n 0, 1) := by decide +kernel
theorem dc_M_reaches_65 : decode bc_M_reaches 65 = .ok (.getfield 73, 3) := by decide +kernel
theorem dc_M_reaches_68 : decode bc_M_reaches 68 = .ok (.iload 4, 2) := by decide +kernel
theorem dc_M_reaches_70 : decode bc_M_reaches 70 = .ok (.laload, 1) := by decide +kernel
theorem dc_M_reaches_71 : decode bc_M_reaches 71 = .ok (.lconst 1, 1) := by decide +kernel
theorem dc_M_reaches_72 : decode bc_M_reaches 72 = .ok (.lcmp, 1) := by decide +kernel
theorem dc_M_reaches_73 : decode bc_M_reaches 73 = .ok (.ifCond .ne 23, 3) := by decide +kernel
theorem dc_M_reaches_76 : decode bc_M_reaches 76 = .ok (.aload_n 0, 1) := by decide +kernel
theorem dc_M_reaches_77 : decode bc_M_reaches 77 = .ok (.getfield 67, 3) := by decide +kernel
theorem dc_M_reaches_80 : decode bc_M_reaches 80 = .ok (.bipush 10, 2) := by decide +kernel
theorem dc_M_reaches_82 : decode bc_M_reaches 82 = .ok (.iload 4, 2) := by decide +kernel
theorem dc_M_reaches_84 : decode bc_M_reaches 84 = .ok (.imul, 1) := by decide +kernel
theorem dc_M_reaches_85 : decode bc_M_reaches 85 = .ok (.iload 5, 2) := by decide +kernel
theorem dc_M_reaches_87 : decode bc_M_reaches 87 = .ok (.iadd, 1) := by decide +kernel
theorem dc_M_reaches_88 : decode bc_M_reaches 88 = .ok (.iaload, 1) := by decide +kernel
theorem dc_M_reaches_89 : decode bc_M_reaches 89 = .ok (.ifCond .le 7, 3) := by decide +kernel
theorem dc_M_reaches_92 : decode bc_M_reaches 92 = .ok (.lconst 1, 1) := by decide +kernel
theorem dc_M_reaches_93 : decode bc_M_reaches 93 = .ok (.goto 10, 3) := by decide +kernel
theorem dc_M_reaches_96 : decode bc_M_reaches 96 = .ok (.aload_n 0, 1) := by decide +kernel
theorem dc_M_reaches_97 : decode bc_M_reaches 97 = .ok (.getfield 73, 3) := by decide +kernel
theorem dc_M_reaches_100 : decode bc_M_reaches 100 = .ok (.iload 5, 2) := by decide +kernel
theorem dc_M_reaches_102 : decode bc_M_reaches 102 = .ok (.laload, 1) := by decide +kernel
theorem dc_M_reaches_103 : decode bc_M_reaches 103 = .ok (.lastore, 1) := by decide +kernel
theorem dc_M_reaches_104 : decode bc_M_reaches 104 = .ok (.iinc 5 1, 3) := by decide +kernel
theorem dc_M_reaches_107 : decode bc_M_reaches 107 = .ok (.goto (-56), 3) := by decide +kernel
theorem dc_M_reaches_110 : decode bc_M_reaches 110 = .ok (.iinc 4 1, 3) := by decide +kernel
theorem dc_M_reaches_113 : decode bc_M_reaches 113 = .ok (.goto (-72), 3) := by decide +kernel
theorem dc_M_reaches_116 : decode bc_M_reaches 116 = .ok (.iinc 3 1, 3) := by decide +kernel
theorem dc_M_reaches_119 : decode bc_M_reaches 119 = .ok (.goto (-87), 3) := by decide +kernel
theorem dc_M_reaches_122 : decode bc_M_reaches 122 = .ok (.aload_n 0, 1) := by decide +kernel
theorem dc_M_reaches_123 : decode bc_M_reaches 123 = .ok (.getfield 73, 3) := by decide +kernel
theorem dc_M_reaches_126 : decode bc_M_reaches 126 = .ok (.iload_n 2, 1) := by decide +kernel
theorem dc_M_reaches_127 : decode bc_M_reaches 127 = .ok (.laload, 1) := by decide +kernel
theorem dc_M_reaches_128 : decode bc_M_reaches 128 = .ok (.lconst 1, 1) := by decide +kernel
theorem dc_M_reaches_129 : decode bc_M_reaches 129 = .ok (.lcmp, 1) := by decide +kernel
theorem dc_M_reaches_130 : decode bc_M_reaches 130 = .ok (.ifCond .ne 7, 3) := by decide +kernel
theorem dc_M_reaches_133 : decode bc_M_reaches 133 = .ok (.iconst 1, 1) := by decide +kernel
theorem dc_M_reaches_134 : decode bc_M_reaches 134 = .ok (.goto 4, 3) := by decide +kernel
theorem dc_M_reaches_137 : decode bc_M_reaches 137 = .ok (.iconst 0, 1) := by decide +kernel
theorem dc_M_reaches_138 : decode bc_M_reaches 138 = .ok (.ireturn, 1) := by decide +kernel
theorem dc_M_owns_0 : decode bc_M_owns 0 = .ok (.iload_n 1, 1) := by decide +kernel
theorem dc_M_owns_1 : decode bc_M_owns 1 = .ok (.invokestatic 93, 3) := by decide +kernel
theorem dc_M_owns_4 : decode bc_M_owns 4 = .ok (.ifCond .eq 22, 3) := by decide +kernel
theorem dc_M_owns_7 : decode bc_M_owns 7 = .ok (.iload_n 2, 1) := by decide +kernel
theorem dc_M_owns_8 : decode bc_M_owns 8 = .ok (.invokestatic 93, 3) := by decide +kernel
theorem dc_M_owns_11 : decode bc_M_owns 11 = .ok (.ifCond .eq 15, 3) := by decide +kernel
theorem dc_M_owns_14 : decode bc_M_owns 14 = .ok (.iload_n 3, 1) := by decide +kernel
theorem dc_M_owns_15 : decode bc_M_owns 15 = .ok (.i2l, 1) := by decide +kernel
theorem dc_M_owns_16 : decode bc_M_owns 16 = .ok (.lconst 0, 1) := by decide +kernel
theorem dc_M_owns_17 : decode bc_M_owns 17 = .ok (.ldc2_w 142, 3) := by decide +kernel
theorem dc_M_owns_20 : decode bc_M_owns 20 = .ok (.invokestatic 82, 3) := by decide +kernel
theorem dc_M_owns_23 : decode bc_M_owns 23 = .ok (.ifCond .ne 5, 3) := by decide +kernel
theorem dc_M_owns_26 : decode bc_M_owns 26 = .ok (.iconst 0, 1) := by decide +kernel
theorem dc_M_owns_27 : decode bc_M_owns 27 = .ok (.ireturn, 1) := by decide +kernel
theorem dc_M_owns_28 : decode bc_M_owns 28 = .ok (.iload_n 3, 1) := by decide +kernel
theorem dc_M_owns_29 : decode bc_M_owns 29 = .ok (.ifCond .le 19, 3) := by decide +kernel
theorem dc_M_owns_32 : decode bc_M_owns 32 = .ok (.iload_n 1, 1) := by decide +kernel
theorem dc_M_owns_33 : decode bc_M_owns 33 = .ok (.iload_n 2, 1) := by decide +kernel
theorem dc_M_owns_34 : decode bc_M_owns 34 = .ok (.if_icmp .eq 12, 3) := by decide +kernel
theorem dc_M_owns_37 : decode bc_M_owns 37 = .ok (.aload_n 0, 1) := by decide +kernel
theorem dc_M_owns_38 : decode bc_M_owns 38 = .ok (.iload_n 2, 1) := by decide +kernel
theorem dc_M_owns_39 : decode bc_M_owns 39 = .ok (.iload_n 1, 1) := by decide +kernel
theorem dc_M_owns_40 : decode bc_M_owns 40 = .ok (.invokevirtual 144, 3) := by decide +kernel
theorem dc_M_owns_43 : decode bc_M_owns 43 = .ok (.ifCond .eq 5, 3) := by decide +kernel
theorem dc_M_owns_46 : decode bc_M_owns 46 = .ok (.iconst 0, 1) := by decide +kernel
theorem dc_M_owns_47 : decode bc_M_owns 47 = .ok (.ireturn, 1) := by decide +kernel
theorem dc_M_owns_48 : decode bc_M_owns 48 = .ok (.iload_n 3, 1) := by decide +kernel
theorem dc_M_owns_49 : decode bc_M_owns 49 = .ok (.istore 4, 2) := by decide +kernel
theorem dc_M_owns_51 : decode bc_M_owns 51 = .ok (.iconst 0, 1) := by decide +kernel
theorem dc_M_owns_52 : decode bc_M_owns 52 = .ok (.istore 5, 2) := by decide +kernel
theorem dc_M_owns_54 : decode bc_M_owns 54 = .ok (.iload 5, 2) := by decide +kernel
theorem dc_M_owns_56 : decode bc_M_owns 56 = .ok (.bipush 10, 2) := by decide +kernel
theorem dc_M_owns_58 : decode bc_M_owns 58 = .ok (.if_icmp .ge 37, 3) := by decide +kernel
theorem dc_M_owns_61 : decode bc_M_owns 61 = .ok (.iload 5, 2) := by decide +kernel
theorem dc_M_owns_63 : decode bc_M_owns 63 = .ok (.iload_n 1, 1) := by decide +kernel
theorem dc_M_owns_64 : decode bc_M_owns 64 = .ok (.if_icmp .ne 8, 3) := by decide +kernel
theorem dc_M_owns_67 : decode bc_M_owns 67 = .ok (.iload 4, 2) := by decide +kernel
theorem dc_M_owns_69 : decode bc_M_owns 69 = .ok (.goto 18, 3) := by decide +kernel
theorem dc_M_owns_72 : decode bc_M_owns 72 = .ok (.iload 4, 2) := by decide +kernel
theorem dc_M_owns_74 : decode bc_M_owns 74 = .ok (.aload_n 0, 1) := by decide +kernel
theorem dc_M_owns_75 : decode bc_M_owns 75 = .ok (.getfield 67, 3) := by decide +kernel
theorem dc_M_owns_78 : decode bc_M_owns 78 = .ok (.bipush 10, 2) := by decide +kernel
theorem dc_M_owns_80 : decode bc_M_owns 80 = .ok (.iload 5, 2) := by decide +kernel
theorem dc_M_owns_82 : decode bc_M_owns 82 = .ok (.imul, 1) := by decide +kernel
theorem dc_M_owns_83 : decode bc_M_owns 83 = .ok (.iload_n 2, 1) := by decide +kernel
theorem dc_M_owns_84 : decode bc_M_owns 84 = .ok (.iadd, 1) := by decide +kernel
theorem dc_M_owns_85 : decode bc_M_owns 85 = .ok (.iaload, 1) := by decide +kernel
theorem dc_M_owns_86 : decode bc_M_owns 86 = .ok (.iadd, 1) := by decide +kernel
theorem dc_M_owns_87 : decode bc_M_owns 87 = .ok (.istore 4, 2) := by decide +kernel
theorem dc_M_owns_89 : decode bc_M_owns 89 = .ok (.iinc 5 1, 3) := by decide +kernel
theorem dc_M_owns_92 : decode bc_M_owns 92 = .ok (.goto (-38), 3) := by decide +kernel
theorem dc_M_owns_95 : decode bc_M_owns 95 = .ok (.iload 4, 2) := by decide +kernel
theorem dc_M_owns_97 : decode bc_M_owns 97 = .ok (.bipush 100, 2) := by decide +kernel
theorem dc_M_owns_99 : decode bc_M_owns 99 = .ok (.if_icmp .le 5, 3) := by decide +kernel
theorem dc_M_owns_102 : decode bc_M_owns 102 = .ok (.iconst 0, 1) := by decide +kernel
theorem dc_M_owns_103 : decode bc_M_owns 103 = .ok (.ireturn, 1) := by decide +kernel
theorem dc_M_owns_104 : decode bc_M_owns 104 = .ok (.aload_n 0, 1) := by decide +kernel
theorem dc_M_owns_105 : decode bc_M_owns 105 = .ok (.getfield 67, 3) := by decide +kernel
theorem dc_M_owns_108 : decode bc_M_owns 108 = .ok (.bipush 10, 2) := by decide +kernel
theorem dc_M_owns_110 : decode bc_M_owns 110 = .ok (.iload_n 1, 1) := by decide +kernel
theorem dc_M_owns_111 : decode bc_M_owns 111 = .ok (.imul, 1) := by decide +kernel
theorem dc_M_owns_112 : decode bc_M_owns 112 = .ok (.iload_n 2, 1) := by decide +kernel
theorem dc_M_owns_113 : decode bc_M_owns 113 = .ok (.iadd, 1) := by decide +kernel
theorem dc_M_owns_114 : decode bc_M_owns 114 = .ok (.iload_n 3, 1) := by decide +kernel
theorem dc_M_owns_115 : decode bc_M_owns 115 = .ok (.iastore, 1) := by decide +kernel
theorem dc_M_owns_116 : decode bc_M_owns 116 = .ok (.iconst 1, 1) := by decide +kernel
theorem dc_M_owns_117 : decode bc_M_owns 117 = .ok (.ireturn, 1) := by decide +kernel
theorem dc_M_findHolds_0 : decode bc_M_findHolds 0 = .ok (.lconst 1, 1) := by decide +kernel
theorem dc_M_findHolds_1 : decode bc_M_findHolds 1 = .ok (.lstore_n 2, 1) := by decide +kernel
theorem dc_M_findHolds_2 : decode bc_M_findHolds 2 = .ok (.iconst 0, 1) := by decide +kernel
theorem dc_M_findHolds_3 : decode bc_M_findHolds 3 = .ok (.istore 4, 2) := by decide +kernel
theorem dc_M_findHolds_5 : decode bc_M_findHolds 5 = .ok (.iload 4, 2) := by decide +kernel
theorem dc_M_findHolds_7 : decode bc_M_findHolds 7 = .ok (.bipush 9, 2) := by decide +kernel
theorem dc_M_findHolds_9 : decode bc_M_findHolds 9 = .ok (.if_icmp .ge 15, 3) := by decide +kernel
theorem dc_M_findHolds_12 : decode bc_M_findHolds 12 = .ok (.ldc2_w 142, 3) := by decide +kernel
theorem dc_M_findHolds_15 : decode bc_M_findHolds 15 = .ok (.lload_n 2, 1) := by decide +kernel
theorem dc_M_findHolds_16 : decode bc_M_findHolds 16 = .ok (.lmul, 1) := by decide +kernel
theorem dc_M_findHolds_17 : decode bc_M_findHolds 17 = .ok (.lstore_n 2, 1) := by decide +kernel
theorem dc_M_findHolds_18 : decode bc_M_findHolds 18 = .ok (.iinc 4 1, 3) := by decide +kernel
theorem dc_M_findHolds_21 : decode bc_M_findHolds 21 = .ok (.goto (-16), 3) := by decide +kernel
theorem dc_M_findHolds_24 : decode bc_M_findHolds 24 = .ok (.iconst 0, 1) := by decide +kernel
theorem dc_M_findHolds_25 : decode bc_M_findHolds 25 = .ok (.istore 4, 2) := by decide +kernel
theorem dc_M_findHolds_27 : decode bc_M_findHolds 27 = .ok (.iload 4, 2) := by decide +kernel
theorem dc_M_findHolds_29 : decode bc_M_findHolds 29 = .ok (.bipush 10, 2) := by decide +kernel
theorem dc_M_findHolds_31 : decode bc_M_findHolds 31 = .ok (.if_icmp .ge 41, 3) := by decide +kernel
theorem dc_M_findHolds_34 : decode bc_M_findHolds 34 = .ok (.aload_n 0, 1) := by decide +kernel
theorem dc_M_findHolds_35 : decode bc_M_findHolds 35 = .ok (.getfield 70, 3) := by decide +kernel
theorem dc_M_findHolds_38 : decode bc_M_findHolds 38 = .ok (.iload 4, 2) := by decide +kernel
theorem dc_M_findHolds_40 : decode bc_M_findHolds 40 = .ok (.iload 4, 2) := by decide +kernel
theorem dc_M_findHolds_42 : decode bc_M_findHolds 42 = .ok (.iload_n 1, 1) := by decide +kernel
theorem dc_M_findHolds_43 : decode bc_M_findHolds 43 = .ok (.if_icmp .ne 7, 3) := by decide +kernel
theorem dc_M_findHolds_46 : decode bc_M_findHolds 46 = .ok (.lload_n 2, 1) := by decide +kernel
theorem dc_M_findHolds_47 : decode bc_M_findHolds 47 = .ok (.goto 4, 3) := by decide +kernel
theorem dc_M_findHolds_50 : decode bc_M_findHolds 50 = .ok (.lconst 0, 1) := by decide +kernel
theorem dc_M_findHolds_51 : decode bc_M_findHolds 51 = .ok (.lastore, 1) := by decide +kernel
theorem dc_M_findHolds_52 : decode bc_M_findHolds 52 = .ok (.aload_n 0, 1) := by decide +kernel
theorem dc_M_findHolds_53 : decode bc_M_findHolds 53 = .ok (.getfield 76, 3) := by decide +kernel
theorem dc_M_findHolds_56 : decode bc_M_findHolds 56 = .ok (.iload 4, 2) := by decide +kernel
theorem dc_M_findHolds_58 : decode bc_M_findHolds 58 = .ok (.aload_n 0, 1) := by decide +kernel
theorem dc_M_findHolds_59 : decode bc_M_findHolds 59 = .ok (.getfield 70, 3) := by decide +kernel
theorem dc_M_findHolds_62 : decode bc_M_findHolds 62 = .ok (.iload 4, 2) := by decide +kernel
theorem dc_M_findHolds_64 : decode bc_M_findHolds 64 = .ok (.laload, 1) := by decide +kernel
theorem dc_M_findHolds_65 : decode bc_M_findHolds 65 = .ok (.lastore, 1) := by decide +kernel
theorem dc_M_findHolds_66 : decode bc_M_findHolds 66 = .ok (.iinc 4 1, 3) := by decide +kernel
theorem dc_M_findHolds_69 : decode bc_M_findHolds 69 = .ok (.goto (-42), 3) := by decide +kernel
theorem dc_M_findHolds_72 : decode bc_M_findHolds 72 = .ok (.iconst 1, 1) := by decide +kernel
theorem dc_M_findHolds_73 : decode bc_M_findHolds 73 = .ok (.istore 4, 2) := by decide +kernel
theorem dc_M_findHolds_75 : decode bc_M_findHolds 75 = .ok (.iload 4, 2) := by decide +kernel
theorem dc_M_findHolds_77 : decode bc_M_findHolds 77 = .ok (.bipush 10, 2) := by decide +kernel
theorem dc_M_findHolds_79 : decode bc_M_findHolds 79 = .ok (.if_icmp .ge 142, 3) := by decide +kernel
theorem dc_M_findHolds_82 : decode bc_M_findHolds 82 = .ok (.iconst 0, 1) := by decide +kernel
theorem dc_M_findHolds_83 : decode bc_M_findHolds 83 = .ok (.istore 5, 2) := by decide +kernel
theorem dc_M_findHolds_85 : decode bc_M_findHolds 85 = .ok (.iload 5, 2) := by decide +kernel
theorem dc_M_findHolds_87 : decode bc_M_findHolds 87 = .ok (.bipush 10, 2) := by decide +kernel
theorem dc_M_findHolds_89 : decode bc_M_findHolds 89 = .ok (.if_icmp .ge 74, 3) := by decide +kernel
theorem dc_M_findHolds_92 : decode bc_M_findHolds 92 = .ok (.aload_n 0, 1) := by decide +kernel
theorem dc_M_findHolds_93 : decode bc_M_findHolds 93 = .ok (.getfield 73, 3) := by decide +kernel
theorem dc_M_findHolds_96 : decode bc_M_findHolds 96 = .ok (.iload 5, 2) := by decide +kernel
theorem dc_M_findHolds_98 : decode bc_M_findHolds 98 = .ok (.lconst 0, 1) := by decide +kernel
theorem dc_M_findHolds_99 : decode bc_M_findHolds 99 = .ok (.lastore, 1) := by decide +kernel
theorem dc_M_findHolds_100 : decode bc_M_findHolds 100 = .ok (.iconst 0, 1) := by decide +kernel
theorem dc_M_findHolds_101 : decode bc_M_findHolds 101 = .ok (.istore 6, 2) := by decide +kernel
theorem dc_M_findHolds_103 : decode bc_M_findHolds 103 = .ok (.iload 6, 2) := by decide +kernel
theorem dc_M_findHolds_105 : decode bc_M_findHolds 105 = .ok (.bipush 10, 2) := by decide +kernel
theorem dc_M_findHolds_107 : decode bc_M_findHolds 107 = .ok (.if_icmp .ge 50, 3) := by decide +kernel
theorem dc_M_findHolds_110 : decode bc_M_findHolds 110 = .ok (.aload_n 0, 1) := by decide +kernel
theorem dc_M_findHolds_111 : decode bc_M_findHolds 111 = .ok (.getfield 73, 3) := by decide +kernel
theorem dc_M_findHolds_114 : decode bc_M_findHolds 114 = .ok (.iload 5, 2) := by decide +kernel
theorem dc_M_findHolds_116 : decode bc_M_findHolds 116 = .ok (.aload_n 0, 1) := by decide +kernel
theorem dc_M_findHolds_117 : decode bc_M_findHolds 117 = .ok (.getfield 73, 3) := by decide +kernel
theorem dc_M_findHolds_120 : decode bc_M_findHolds 120 = .ok (.iload 5, 2) := by decide +kernel
theorem dc_M_findHolds_122 : decode bc_M_findHolds 122 = .ok (.laload, 1) := by decide +kernel
theorem dc_M_findHolds_123 : decode bc_M_findHolds 123 = .ok (.aload_n 0, 1) := by decide +kernel
theorem dc_M_findHolds_124 : decode bc_M_findHolds 124 = .ok (.getfield 70, 3) := by decide +kernel
theorem dc_M_findHolds_127 : decode bc_M_findHolds 127 = .ok (.iload 6, 2) := by decide +kernel
theorem dc_M_findHolds_129 : decode bc_M_findHolds 129 = .ok (.laload, 1) := by decide +kernel
theorem dc_M_findHolds_130 : decode bc_M_findHolds 130 = .ok (.ldc2_w 142, 3) := by decide +kernel
theorem dc_M_findHolds_133 : decode bc_M_findHolds 133 = .ok (.ldiv, 1) := by decide +kernel
theorem dc_M_findHolds_134 : decode bc_M_findHolds 134 = .ok (.aload_n 0, 1) := by decide +kernel
theorem dc_M_findHolds_135 : decode bc_M_findHolds 135 = .ok (.getfield 67, 3) := by decide +kernel
theorem dc_M_findHolds_138 : decode bc_M_findHolds 138 = .ok (.bipush 10, 2) := by decide +kernel
theorem dc_M_findHolds_140 : decode bc_M_findHolds 140 = .ok (.iload 6, 2) := by decide +kernel
theorem dc_M_findHolds_142 : decode bc_M_findHolds 142 = .ok (.imul, 1) := by decide +kernel
theorem dc_M_findHolds_143 : decode bc_M_findHolds 143 = .ok (.iload 5, 2) := by decide +kernel
theorem dc_M_findHolds_145 : decode bc_M_findHolds 145 = .ok (.iadd, 1) := by decide +kernel
theorem dc_M_findHolds_146 : decode bc_M_findHolds 146 = .ok (.iaload, 1) := by decide +kernel
theorem dc_M_findHolds_147 : decode bc_M_findHolds 147 = .ok (.i2l, 1) := by decide +kernel
theorem dc_M_findHolds_148 : decode bc_M_findHolds 148 = .ok (.lmul, 1) := by decide +kernel
theorem dc_M_findHolds_149 : decode bc_M_findHolds 149 = .ok (.ladd, 1) := by decide +kernel
theorem dc_M_findHolds_150 : decode bc_M_findHolds 150 = .ok (.lastore, 1) := by decide +kernel
theorem dc_M_findHolds_151 : decode bc_M_findHolds 151 = .ok (.iinc 6 1, 3) := by decide +kernel
theorem dc_M_findHolds_154 : decode bc_M_findHolds 154 = .ok (.goto (-51), 3) := by decide +kernel
theorem dc_M_findHolds_157 : decode bc_M_findHolds 157 = .ok (.iinc 5 1, 3) := by decide +kernel
theorem dc_M_findHolds_160 : decode bc_M_findHolds 160 = .ok (.goto (-75), 3) := by decide +kernel
theorem dc_M_findHolds_163 : decode bc_M_findHolds 163 = .ok (.iconst 0, 1) := by decide +kernel
theorem dc_M_findHolds_164 : decode bc_M_findHolds 164 = .ok (.istore 5, 2) := by decide +kernel
theorem dc_M_findHolds_166 : decode bc_M_findHolds 166 = .ok (.iload 5, 2) := by decide +kernel
theorem dc_M_findHolds_168 : decode bc_M_findHolds 168 = .ok (.bipush 10, 2) := by decide +kernel
theorem dc_M_findHolds_170 : decode bc_M_findHolds 170 = .ok (.if_icmp .ge 45, 3) := by decide +kernel
theorem dc_M_findHolds_173 : decode bc_M_findHolds 173 = .ok (.aload_n 0, 1) := by decide +kernel
theorem dc_M_findHolds_174 : decode bc_M_findHolds 174 = .ok (.getfield 70, 3) := by decide +kernel
theorem dc_M_findHolds_177 : decode bc_M_findHolds 177 = .ok (.iload 5, 2) := by decide +kernel
theorem dc_M_findHolds_179 : decode bc_M_findHolds 179 = .ok (.aload_n 0, 1) := by decide +kernel
theorem dc_M_findHolds_180 : decode bc_M_findHolds 180 = .ok (.getfield 73, 3) := by decide +kernel
theorem dc_M_findHolds_183 : decode bc_M_findHolds 183 = .ok (.iload 5, 2) := by decide +kernel
theorem dc_M_findHolds_185 : decode bc_M_findHolds 185 = .ok (.laload, 1) := by decide +kernel
theorem dc_M_findHolds_186 : decode bc_M_findHolds 186 = .ok (.lastore, 1) := by decide +kernel
theorem dc_M_findHolds_187 : decode bc_M_findHolds 187 = .ok (.aload_n 0, 1) := by decide +kernel
theorem dc_M_findHolds_188 : decode bc_M_findHolds 188 = .ok (.getfield 76, 3) := by decide +kernel
theorem dc_M_findHolds_191 : decode bc_M_findHolds 191 = .ok (.iload 5, 2) := by decide +kernel
theorem dc_M_findHolds_193 : decode bc_M_findHolds 193 = .ok (.aload_n 0, 1) := by decide +kernel
theorem dc_M_findHolds_194 : decode bc_M_findHolds 194 = .ok (.getfield 76, 3) := by decide +kernel
theorem dc_M_findHolds_197 : decode bc_M_findHolds 197 = .ok (.iload 5, 2) := by decide +kernel
theorem dc_M_findHolds_199 : decode bc_M_findHolds 199 = .ok (.laload, 1) := by decide +kernel
theorem dc_M_findHolds_200 : decode bc_M_findHolds 200 = .ok (.aload_n 0, 1) := by decide +kernel
theorem dc_M_findHolds_201 : decode bc_M_findHolds 201 = .ok (.getfield 73, 3) := by decide +kernel
theorem dc_M_findHolds_204 : decode bc_M_findHolds 204 = .ok (.iload 5, 2) := by decide +kernel
theorem dc_M_findHolds_206 : decode bc_M_findHolds 206 = .ok (.laload, 1) := by decide +kernel
theorem dc_M_findHolds_207 : decode bc_M_findHolds 207 = .ok (.ladd, 1) := by decide +kernel
theorem dc_M_findHolds_208 : decode bc_M_findHolds 208 = .ok (.lastore, 1) := by decide +kernel
theorem dc_M_findHolds_209 : decode bc_M_findHolds 209 = .ok (.iinc 5 1, 3) := by decide +kernel
theorem dc_M_findHolds_212 : decode bc_M_findHolds 212 = .ok (.goto (-46), 3) := by decide +kernel
theorem dc_M_findHolds_215 : decode bc_M_findHolds 215 = .ok (.iinc 4 1, 3) := by decide +kernel
theorem dc_M_findHolds_218 : decode bc_M_findHolds 218 = .ok (.goto (-143), 3) := by decide +kernel
theorem dc_M_findHolds_221 : decode bc_M_findHolds 221 = .ok (.return_, 1) := by decide +kernel
theorem dc_M_hold_0 : decode bc_M_hold 0 = .ok (.iload_n 1, 1) := by decide +kernel
theorem dc_M_hold_1 : decode bc_M_hold 1 = .ok (.invokestatic 93, 3) := by decide +kernel
theorem dc_M_hold_4 : decode bc_M_hold 4 = .ok (.ifCond .eq 10, 3) := by decide +kernel
theorem dc_M_hold_7 : decode bc_M_hold 7 = .ok (.iload_n 2, 1) := by decide +kernel
theorem dc_M_hold_8 : decode bc_M_hold 8 = .ok (.invokestatic 93, 3) := by decide +kernel
theorem dc_M_hold_11 : decode bc_M_hold 11 = .ok (.ifCond .ne 7, 3) := by decide +kernel
theorem dc_M_hold_14 : decode bc_M_hold 14 = .ok (.ldc2_w 109, 3) := by decide +kernel
theorem dc_M_hold_17 : decode bc_M_hold 17 = .ok (.lreturn, 1) := by decide +kernel
theorem dc_M_hold_18 : decode bc_M_hold 18 = .ok (.aload_n 0, 1) := by decide +kernel
theorem dc_M_hold_19 : decode bc_M_hold 19 = .ok (.iload_n 1, 1) := by decide +kernel
theorem dc_M_hold_20 : decode bc_M_hold 20 = .ok (.invokevirtual 148, 3) := by decide +kernel
theorem dc_M_hold_23 : decode bc_M_hold 23 = .ok (.aload_n 0, 1) := by decide +kernel
theorem dc_M_hold_24 : decode bc_M_hold 24 = .ok (.getfield 76, 3) := by decide +kernel
theorem dc_M_hold_27 : decode bc_M_hold 27 = .ok (.iload_n 2, 1) := by decide +kernel
theorem dc_M_hold_28 : decode bc_M_hold 28 = .ok (.laload, 1) := by decide +kernel
theorem dc_M_hold_29 : decode bc_M_hold 29 = .ok (.lreturn, 1) := by decide +kernel
theorem dc_M_cap_0 : decode bc_M_cap 0 = .ok (.aload_n 0, 1) := by decide +kernel
theorem dc_M_cap_1 : decode bc_M_cap 1 = .ok (.iload_n 1, 1) := by decide +kernel
theorem dc_M_cap_2 : decode bc_M_cap 2 = .ok (.invokevirtual 97, 3) := by decide +kernel
theorem dc_M_cap_5 : decode bc_M_cap 5 = .ok (.ifCond .eq 15, 3) := by decide +kernel
theorem dc_M_cap_8 : decode bc_M_cap 8 = .ok (.iload_n 2, 1) := by decide +kernel
theorem dc_M_cap_9 : decode bc_M_cap 9 = .ok (.i2l, 1) := by decide +kernel
theorem dc_M_cap_10 : decode bc_M_cap 10 = .ok (.lconst 0, 1) := by decide +kernel
theorem dc_M_cap_11 : decode bc_M_cap 11 = .ok (.ldc2_w 142, 3) := by decide +kernel
theorem dc_M_cap_14 : decode bc_M_cap 14 = .ok (.invokestatic 82, 3) := by decide +kernel
theorem dc_M_cap_17 : decode bc_M_cap 17 = .ok (.ifCond .ne 5, 3) := by decide +kernel
theorem dc_M_cap_20 : decode bc_M_cap 20 = .ok (.iconst 0, 1) := by decide +kernel
theorem dc_M_cap_21 : decode bc_M_cap 21 = .ok (.ireturn, 1) := by decide +kernel
theorem dc_M_cap_22 : decode bc_M_cap 22 = .ok (.aload_n 0, 1) := by decide +kernel
theorem dc_M_cap_23 : decode bc_M_cap 23 = .ok (.getfield 24, 3) := by decide +kernel
theorem dc_M_cap_26 : decode bc_M_cap 26 = .ok (.iload_n 1, 1) := by decide +kernel
theorem dc_M_cap_27 : decode bc_M_cap 27 = .ok (.iload_n 2, 1) := by decide +kernel
theorem dc_M_cap_28 : decode bc_M_cap 28 = .ok (.iastore, 1) := by decide +kernel
theorem dc_M_cap_29 : decode bc_M_cap 29 = .ok (.iconst 1, 1) := by decide +kernel
theorem dc_M_cap_30 : decode bc_M_cap 30 = .ok (.ireturn, 1) := by decide +kernel
theorem dc_M_isAbove_0 : decode bc_M_isAbove 0 = .ok (.lconst 0, 1) := by decide +kernel
theorem dc_M_isAbove_1 : decode bc_M_isAbove 1 = .ok (.lstore_n 2, 1) := by decide +kernel
theorem dc_M_isAbove_2 : decode bc_M_isAbove 2 = .ok (.lconst 0, 1) := by decide +kernel
theorem dc_M_isAbove_3 : decode bc_M_isAbove 3 = .ok (.lstore 4, 2) := by decide +kernel
theorem dc_M_isAbove_5 : decode bc_M_isAbove 5 = .ok (.iconst 0, 1) := by decide +kernel
theorem dc_M_isAbove_6 : decode bc_M_isAbove 6 = .ok (.istore 6, 2) := by decide +kernel
theorem dc_M_isAbove_8 : decode bc_M_isAbove 8 = .ok (.iload 6, 2) := by decide +kernel
theorem dc_M_isAbove_10 : decode bc_M_isAbove 10 = .ok (.aload_n 0, 1) := by decide +kernel
theorem dc_M_isAbove_11 : decode bc_M_isAbove 11 = .ok (.getfield 86, 3) := by decide +kernel
theorem dc_M_isAbove_14 : decode bc_M_isAbove 14 = .ok (.if_icmp .ge 69, 3) := by decide +kernel
theorem dc_M_isAbove_17 : decode bc_M_isAbove 17 = .ok (.aload_n 0, 1) := by decide +kernel
theorem dc_M_isAbove_18 : decode bc_M_isAbove 18 = .ok (.getfield 76, 3) := by decide +kernel
theorem dc_M_isAbove_21 : decode bc_M_isAbove 21 = .ok (.aload_n 0, 1) := by decide +kernel
theorem dc_M_isAbove_22 : decode bc_M_isAbove 22 = .ok (.getfield 36, 3) := by decide +kernel
theorem dc_M_isAbove_25 : decode bc_M_isAbove 25 = .ok (.iload 6, 2) := by decide +kernel
theorem dc_M_isAbove_27 : decode bc_M_isAbove 27 = .ok (.iaload, 1) := by decide +kernel
theorem dc_M_isAbove_28 : decode bc_M_isAbove 28 = .ok (.laload, 1) := by decide +kernel
theorem dc_M_isAbove_29 : decode bc_M_isAbove 29 = .ok (.lstore 7, 2) := by decide +kernel
theorem dc_M_isAbove_31 : decode bc_M_isAbove 31 = .ok (.lload_n 2, 1) := by decide +kernel
theorem dc_M_isAbove_32 : decode bc_M_isAbove 32 = .ok (.aload_n 0, 1) := by decide +kernel
theorem dc_M_isAbove_33 : decode bc_M_isAbove 33 = .ok (.getfield 42, 3) := by decide +kernel
theorem dc_M_isAbove_36 : decode bc_M_isAbove 36 = .ok (.bipush 12, 2) := by decide +kernel
theorem dc_M_isAbove_38 : decode bc_M_isAbove 38 = .ok (.iload_n 1, 1) := by decide +kernel
theorem dc_M_isAbove_39 : decode bc_M_isAbove 39 = .ok (.imul, 1) := by decide +kernel
theorem dc_M_isAbove_40 : decode bc_M_isAbove 40 = .ok (.iload 6, 2) := by decide +kernel
theorem dc_M_isAbove_42 : decode bc_M_isAbove 42 = .ok (.iadd, 1) := by decide +kernel
theorem dc_M_isAbove_43 : decode bc_M_isAbove 43 = .ok (.laload, 1) := by decide +kernel
theorem dc_M_isAbove_44 : decode bc_M_isAbove 44 = .ok (.lload 7, 2) := by decide +kernel
theorem dc_M_isAbove_46 : decode bc_M_isAbove 46 = .ok (.ldc2_w 91, 3) := by decide +kernel
theorem dc_M_isAbove_49 : decode bc_M_isAbove 49 = .ok (.ldiv, 1) := by decide +kernel
theorem dc_M_isAbove_50 : decode bc_M_isAbove 50 = .ok (.lmul, 1) := by decide +kernel
theorem dc_M_isAbove_51 : decode bc_M_isAbove 51 = .ok (.ladd, 1) := by decide +kernel
theorem dc_M_isAbove_52 : decode bc_M_isAbove 52 = .ok (.lstore_n 2, 1) := by decide +kernel
theorem dc_M_isAbove_53 : decode bc_M_isAbove 53 = .ok (.lload 4, 2) := by decide +kernel
theorem dc_M_isAbove_55 : decode bc_M_isAbove 55 = .ok (.aload_n 0, 1) := by decide +kernel
theorem dc_M_isAbove_56 : decode bc_M_isAbove 56 = .ok (.getfield 42, 3) := by decide +kernel
theorem dc_M_isAbove_59 : decode bc_M_isAbove 59 = .ok (.bipush 12, 2) := by decide +kernel
theorem dc_M_isAbove_61 : decode bc_M_isAbove 61 = .ok (.iload_n 1, 1) := by decide +kernel
theorem dc_M_isAbove_62 : decode bc_M_isAbove 62 = .ok (.imul, 1) := by decide +kernel
theorem dc_M_isAbove_63 : decode bc_M_isAbove 63 = .ok (.iload 6, 2) := by decide +kernel
theorem dc_M_isAbove_65 : decode bc_M_isAbove 65 = .ok (.iadd, 1) := by decide +kernel
theorem dc_M_isAbove_66 : decode bc_M_isAbove 66 = .ok (.laload, 1) := by decide +kernel
theorem dc_M_isAbove_67 : decode bc_M_isAbove 67 = .ok (.lload 7, 2) := by decide +kernel
theorem dc_M_isAbove_69 : decode bc_M_isAbove 69 = .ok (.ldc2_w 91, 3) := by decide +kernel
theorem dc_M_isAbove_72 : decode bc_M_isAbove 72 = .ok (.lrem, 1) := by decide +kernel
theorem dc_M_isAbove_73 : decode bc_M_isAbove 73 = .ok (.lmul, 1) := by decide +kernel
theorem dc_M_isAbove_74 : decode bc_M_isAbove 74 = .ok (.ladd, 1) := by decide +kernel
theorem dc_M_isAbove_75 : decode bc_M_isAbove 75 = .ok (.lstore 4, 2) := by decide +kernel
theorem dc_M_isAbove_77 : decode bc_M_isAbove 77 = .ok (.iinc 6 1, 3) := by decide +kernel
theorem dc_M_isAbove_80 : decode bc_M_isAbove 80 = .ok (.goto (-72), 3) := by decide +kernel
theorem dc_M_isAbove_83 : decode bc_M_isAbove 83 = .ok (.lload_n 2, 1) := by decide +kernel
theorem dc_M_isAbove_84 : decode bc_M_isAbove 84 = .ok (.lload 4, 2) := by decide +kernel
theorem dc_M_isAbove_86 : decode bc_M_isAbove 86 = .ok (.ldc2_w 91, 3) := by decide +kernel
theorem dc_M_isAbove_89 : decode bc_M_isAbove 89 = .ok (.ldiv, 1) := by decide +kernel
theorem dc_M_isAbove_90 : decode bc_M_isAbove 90 = .ok (.ladd, 1) := by decide +kernel
theorem dc_M_isAbove_91 : decode bc_M_isAbove 91 = .ok (.lstore_n 2, 1) := by decide +kernel
theorem dc_M_isAbove_92 : decode bc_M_isAbove 92 = .ok (.lload 4, 2) := by decide +kernel
theorem dc_M_isAbove_94 : decode bc_M_isAbove 94 = .ok (.ldc2_w 91, 3) := by decide +kernel
theorem dc_M_isAbove_97 : decode bc_M_isAbove 97 = .ok (.lrem, 1) := by decide +kernel
theorem dc_M_isAbove_98 : decode bc_M_isAbove 98 = .ok (.lstore 4, 2) := by decide +kernel
theorem dc_M_isAbove_100 : decode bc_M_isAbove 100 = .ok (.aload_n 0, 1) := by decide +kernel
theorem dc_M_isAbove_101 : decode bc_M_isAbove 101 = .ok (.getfield 24, 3) := by decide +kernel
theorem dc_M_isAbove_104 : decode bc_M_isAbove 104 = .ok (.iload_n 1, 1) := by decide +kernel
theorem dc_M_isAbove_105 : decode bc_M_isAbove 105 = .ok (.iaload, 1) := by decide +kernel
theorem dc_M_isAbove_106 : decode bc_M_isAbove 106 = .ok (.i2l, 1) := by decide +kernel
theorem dc_M_isAbove_107 : decode bc_M_isAbove 107 = .ok (.aload_n 0, 1) := by decide +kernel
theorem dc_M_isAbove_108 : decode bc_M_isAbove 108 = .ok (.iload_n 1, 1) := by decide +kernel
theorem dc_M_isAbove_109 : decode bc_M_isAbove 109 = .ok (.invokevirtual 105, 3) := by decide +kernel
theorem dc_M_isAbove_112 : decode bc_M_isAbove 112 = .ok (.lmul, 1) := by decide +kernel
theorem dc_M_isAbove_113 : decode bc_M_isAbove 113 = .ok (.lstore 6, 2) := by decide +kernel
theorem dc_M_isAbove_115 : decode bc_M_isAbove 115 = .ok (.lload 6, 2) := by decide +kernel
theorem dc_M_isAbove_117 : decode bc_M_isAbove 117 = .ok (.ldc2_w 152, 3) := by decide +kernel
theorem dc_M_isAbove_120 : decode bc_M_isAbove 120 = .ok (.lmul, 1) := by decide +kernel
theorem dc_M_isAbove_121 : decode bc_M_isAbove 121 = .ok (.lstore 8, 2) := by decide +kernel
theorem dc_M_isAbove_123 : decode bc_M_isAbove 123 = .ok (.lload_n 2, 1) := by decide +kernel
theorem dc_M_isAbove_124 : decode bc_M_isAbove 124 = .ok (.lload 8, 2) := by decide +kernel
theorem dc_M_isAbove_126 : decode bc_M_isAbove 126 = .ok (.lcmp, 1) := by decide +kernel
theorem dc_M_isAbove_127 : decode bc_M_isAbove 127 = .ok (.ifCond .gt 17, 3) := by decide +kernel
theorem dc_M_isAbove_130 : decode bc_M_isAbove 130 = .ok (.lload_n 2, 1) := by decide +kernel
theorem dc_M_isAbove_131 : decode bc_M_isAbove 131 = .ok (.lload 8, 2) := by decide +kernel
theorem dc_M_isAbove_133 : decode bc_M_isAbove 133 = .ok (.lcmp, 1) := by decide +kernel
theorem dc_M_isAbove_134 : decode bc_M_isAbove 134 = .ok (.ifCond .ne 14, 3) := by decide +kernel
theorem dc_M_isAbove_137 : decode bc_M_isAbove 137 = .ok (.lload 4, 2) := by decide +kernel
theorem dc_M_isAbove_139 : decode bc_M_isAbove 139 = .ok (.lconst 0, 1) := by decide +kernel
theorem dc_M_isAbove_140 : decode bc_M_isAbove 140 = .ok (.lcmp, 1) := by decide +kernel
theorem dc_M_isAbove_141 : decode bc_M_isAbove 141 = .ok (.ifCond .le 7, 3) := by decide +kernel
theorem dc_M_isAbove_144 : decode bc_M_isAbove 144 = .ok (.iconst 1, 1) := by decide +kernel
theorem dc_M_isAbove_145 : decode bc_M_isAbove 145 = .ok (.goto 4, 3) := by decide +kernel
theorem dc_M_isAbove_148 : decode bc_M_isAbove 148 = .ok (.iconst 0, 1) := by decide +kernel
theorem dc_M_isAbove_149 : decode bc_M_isAbove 149 = .ok (.ireturn, 1) := by decide +kernel
theorem dc_M_capped_0 : decode bc_M_capped 0 = .ok (.iload_n 1, 1) := by decide +kernel
theorem dc_M_capped_1 : decode bc_M_capped 1 = .ok (.invokestatic 93, 3) := by decide +kernel
theorem dc_M_capped_4 : decode bc_M_capped 4 = .ok (.ifCond .ne 5, 3) := by decide +kernel
theorem dc_M_capped_7 : decode bc_M_capped 7 = .ok (.iconst 0, 1) := by decide +kernel
theorem dc_M_capped_8 : decode bc_M_capped 8 = .ok (.ireturn, 1) := by decide +kernel
theorem dc_M_capped_9 : decode bc_M_capped 9 = .ok (.aload_n 0, 1) := by decide +kernel
theorem dc_M_capped_10 : decode bc_M_capped 10 = .ok (.iload_n 1, 1) := by decide +kernel
theorem dc_M_capped_11 : decode bc_M_capped 11 = .ok (.invokevirtual 148, 3) := by decide +kernel
theorem dc_M_capped_14 : decode bc_M_capped 14 = .ok (.iconst 0, 1) := by decide +kernel
theorem dc_M_capped_15 : decode bc_M_capped 15 = .ok (.istore_n 2, 1) := by decide +kernel
theorem dc_M_capped_16 : decode bc_M_capped 16 = .ok (.iconst 0, 1) := by decide +kernel
theorem dc_M_capped_17 : decode bc_M_capped 17 = .ok (.istore_n 3, 1) := by decide +kernel
theorem dc_M_capped_18 : decode bc_M_capped 18 = .ok (.iload_n 3, 1) := by decide +kernel
theorem dc_M_capped_19 : decode bc_M_capped 19 = .ok (.aload_n 0, 1) := by decide +kernel
theorem dc_M_capped_20 : decode bc_M_capped 20 = .ok (.getfield 79, 3) := by decide +kernel
theorem dc_M_capped_23 : decode bc_M_capped 23 = .ok (.if_icmp .ge 27, 3) := by decide +kernel
theorem dc_M_capped_26 : decode bc_M_capped 26 = .ok (.iload_n 2, 1) := by decide +kernel
theorem dc_M_capped_27 : decode bc_M_capped 27 = .ok (.ifCond .ne 11, 3) := by decide +kernel
theorem dc_M_capped_30 : decode bc_M_capped 30 = .ok (.aload_n 0, 1) := by decide +kernel
theorem dc_M_capped_31 : decode bc_M_capped 31 = .ok (.iload_n 3, 1) := by decide +kernel
theorem dc_M_capped_32 : decode bc_M_capped 32 = .ok (.invokevirtual 154, 3) := by decide +kernel
theorem dc_M_capped_35 : decode bc_M_capped 35 = .ok (.ifCond .eq 7, 3) := by decide +kernel
theorem dc_M_capped_38 : decode bc_M_capped 38 = .ok (.iconst 1, 1) := by decide +kernel
theorem dc_M_capped_39 : decode bc_M_capped 39 = .ok (.goto 4, 3) := by decide +kernel
theorem dc_M_capped_42 : decode bc_M_capped 42 = .ok (.iconst 0, 1) := by decide +kernel
theorem dc_M_capped_43 : decode bc_M_capped 43 = .ok (.istore_n 2, 1) := by decide +kernel
theorem dc_M_capped_44 : decode bc_M_capped 44 = .ok (.iinc 3 1, 3) := by decide +kernel
theorem dc_M_capped_47 : decode bc_M_capped 47 = .ok (.goto (-29), 3) := by decide +kernel
theorem dc_M_capped_50 : decode bc_M_capped 50 = .ok (.iload_n 2, 1) := by decide +kernel
theorem dc_M_capped_51 : decode bc_M_capped 51 = .ok (.ireturn, 1) := by decide +kernel
theorem dc_M_isLess_0 : decode bc_M_isLess 0 = .ok (.lload_n 0, 1) := by decide +kernel
theorem dc_M_isLess_1 : decode bc_M_isLess 1 = .ok (.lstore 8, 2) := by decide +kernel
theorem dc_M_isLess_3 : decode bc_M_isLess 3 = .ok (.lload_n 2, 1) := by decide +kernel
theorem dc_M_isLess_4 : decode bc_M_isLess 4 = .ok (.lstore 10, 2) := by decide +kernel
theorem dc_M_isLess_6 : decode bc_M_isLess 6 = .ok (.lload 4, 2) := by decide +kernel
theorem dc_M_isLess_8 : decode bc_M_isLess 8 = .ok (.lstore 12, 2) := by decide +kernel
theorem dc_M_isLess_10 : decode bc_M_isLess 10 = .ok (.lload 6, 2) := by decide +kernel
theorem dc_M_isLess_12 : decode bc_M_isLess 12 = .ok (.lstore 14, 2) := by decide +kernel
theorem dc_M_isLess_14 : decode bc_M_isLess 14 = .ok (.iconst 0, 1) := by decide +kernel
theorem dc_M_isLess_15 : decode bc_M_isLess 15 = .ok (.istore 16, 2) := by decide +kernel
theorem dc_M_isLess_17 : decode bc_M_isLess 17 = .ok (.lload 8, 2) := by decide +kernel
theorem dc_M_isLess_19 : decode bc_M_isLess 19 = .ok (.lload 10, 2) := by decide +kernel
theorem dc_M_isLess_21 : decode bc_M_isLess 21 = .ok (.invokestatic 157, 3) := by decide +kernel
theorem dc_M_isLess_24 : decode bc_M_isLess 24 = .ok (.lstore 17, 2) := by decide +kernel
theorem dc_M_isLess_26 : decode bc_M_isLess 26 = .ok (.lload 12, 2) := by decide +kernel
theorem dc_M_isLess_28 : decode bc_M_isLess 28 = .ok (.lload 14, 2) := by decide +kernel
theorem dc_M_isLess_30 : decode bc_M_isLess 30 = .ok (.invokestatic 157, 3) := by decide +kernel
theorem dc_M_isLess_33 : decode bc_M_isLess 33 = .ok (.lstore 19, 2) := by decide +kernel
theorem dc_M_isLess_35 : decode bc_M_isLess 35 = .ok (.lload 17, 2) := by decide +kernel
theorem dc_M_isLess_37 : decode bc_M_isLess 37 = .ok (.lload 19, 2) := by decide +kernel
theorem dc_M_isLess_39 : decode bc_M_isLess 39 = .ok (.lcmp, 1) := by decide +kernel
theorem dc_M_isLess_40 : decode bc_M_isLess 40 = .ok (.ifCond .eq 27, 3) := by decide +kernel
theorem dc_M_isLess_43 : decode bc_M_isLess 43 = .ok (.lload 17, 2) := by decide +kernel
theorem dc_M_isLess_45 : decode bc_M_isLess 45 = .ok (.lload 19, 2) := by decide +kernel
theorem dc_M_isLess_47 : decode bc_M_isLess 47 = .ok (.lcmp, 1) := by decide +kernel
theorem dc_M_isLess_48 : decode bc_M_isLess 48 = .ok (.ifCond .ge 7, 3) := by decide +kernel
theorem dc_M_isLess_51 : decode bc_M_isLess 51 = .ok (.iconst 1, 1) := by decide +kernel
theorem dc_M_isLess_52 : decode bc_M_isLess 52 = .ok (.goto 4, 3) := by decide +kernel
theorem dc_M_isLess_55 : decode bc_M_isLess 55 = .ok (.iconst 0, 1) := by decide +kernel
theorem dc_M_isLess_56 : decode bc_M_isLess 56 = .ok (.iload 16, 2) := by decide +kernel
theorem dc_M_isLess_58 : decode bc_M_isLess 58 = .ok (.if_icmp .eq 7, 3) := by decide +kernel
theorem dc_M_isLess_61 : decode bc_M_isLess 61 = .ok (.iconst 1, 1) := by decide +kernel
theorem dc_M_isLess_62 : decode bc_M_isLess 62 = .ok (.goto 4, 3) := by decide +kernel
theorem dc_M_isLess_65 : decode bc_M_isLess 65 = .ok (.iconst 0, 1) := by decide +kernel
theorem dc_M_isLess_66 : decode bc_M_isLess 66 = .ok (.ireturn, 1) := by decide +kernel
theorem dc_M_isLess_67 : decode bc_M_isLess 67 = .ok (.lload 8, 2) := by decide +kernel
theorem dc_M_isLess_69 : decode bc_M_isLess 69 = .ok (.lload 17, 2) := by decide +kernel
theorem dc_M_isLess_71 : decode bc_M_isLess 71 = .ok (.lload 10, 2) := by decide +kernel
theorem dc_M_isLess_73 : decode bc_M_isLess 73 = .ok (.lmul, 1) := by decide +kernel
theorem dc_M_isLess_74 : decode bc_M_isLess 74 = .ok (.lsub, 1) := by decide +kernel
theorem dc_M_isLess_75 : decode bc_M_isLess 75 = .ok (.lstore 21, 2) := by decide +kernel
theorem dc_M_isLess_77 : decode bc_M_isLess 77 = .ok (.lload 12, 2) := by decide +kernel
theorem dc_M_isLess_79 : decode bc_M_isLess 79 = .ok (.lload 19, 2) := by decide +kernel
theorem dc_M_isLess_81 : decode bc_M_isLess 81 = .ok (.lload 14, 2) := by decide +kernel
theorem dc_M_isLess_83 : decode bc_M_isLess 83 = .ok (.lmul, 1) := by decide +kernel
theorem dc_M_isLess_84 : decode bc_M_isLess 84 = .ok (.lsub, 1) := by decide +kernel
theorem dc_M_isLess_85 : decode bc_M_isLess 85 = .ok (.lstore 23, 2) := by decide +kernel
theorem dc_M_isLess_87 : decode bc_M_isLess 87 = .ok (.lload 21, 2) := by decide +kernel
theorem dc_M_isLess_89 : decode bc_M_isLess 89 = .ok (.lconst 0, 1) := by decide +kernel
theorem dc_M_isLess_90 : decode bc_M_isLess 90 = .ok (.lcmp, 1) := by decide +kernel
theorem dc_M_isLess_91 : decode bc_M_isLess 91 = .ok (.ifCond .eq 10, 3) := by decide +kernel
theorem dc_M_isLess_94 : decode bc_M_isLess 94 = .ok (.lload 23, 2) := by decide +kernel
theorem dc_M_isLess_96 : decode bc_M_isLess 96 = .ok (.lconst 0, 1) := by decide +kernel
theorem dc_M_isLess_97 : decode bc_M_isLess 97 = .ok (.lcmp, 1) := by decide +kernel
theorem dc_M_isLess_98 : decode bc_M_isLess 98 = .ok (.ifCond .ne 41, 3) := by decide +kernel
theorem dc_M_isLess_101 : decode bc_M_isLess 101 = .ok (.lload 21, 2) := by decide +kernel
theorem dc_M_isLess_103 : decode bc_M_isLess 103 = .ok (.lconst 0, 1) := by decide +kernel
theorem dc_M_isLess_104 : decode bc_M_isLess 104 = .ok (.lcmp, 1) := by decide +kernel
theorem dc_M_isLess_105 : decode bc_M_isLess 105 = .ok (.ifCond .ne 14, 3) := by decide +kernel
theorem dc_M_isLess_108 : decode bc_M_isLess 108 = .ok (.lload 23, 2) := by decide +kernel
theorem dc_M_isLess_110 : decode bc_M_isLess 110 = .ok (.lconst 0, 1) := by decide +kernel
theorem dc_M_isLess_111 : decode bc_M_isLess 111 = .ok (.lcmp, 1) := by decide +kernel
theorem dc_M_isLess_112 : decode bc_M_isLess 112 = .ok (.ifCond .le 7, 3) := by decide +kernel
theorem dc_M_isLess_115 : decode bc_M_isLess 115 = .ok (.iconst 1, 1) := by decide +kernel
theorem dc_M_isLess_116 : decode bc_M_isLess 116 = .ok (.goto 4, 3) := by decide +kernel
theorem dc_M_isLess_119 : decode bc_M_isLess 119 = .ok (.iconst 0, 1) := by decide +kernel
theorem dc_M_isLess_120 : decode bc_M_isLess 120 = .ok (.iload 16, 2) := by decide +kernel
theorem dc_M_isLess_122 : decode bc_M_isLess 122 = .ok (.if_icmp .eq 15, 3) := by decide +kernel
theorem dc_M_isLess_125 : decode bc_M_isLess 125 = .ok (.lload 21, 2) := by decide +kernel
theorem dc_M_isLess_127 : decode bc_M_isLess 127 = .ok (.lload 23, 2) := by decide +kernel
theorem dc_M_isLess_129 : decode bc_M_isLess 129 = .ok (.lcmp, 1) := by decide +kernel
theorem dc_M_isLess_130 : decode bc_M_isLess 130 = .ok (.ifCond .eq 7, 3) := by decide +kernel
theorem dc_M_isLess_133 : decode bc_M_isLess 133 = .ok (.iconst 1, 1) := by decide +kernel
theorem dc_M_isLess_134 : decode bc_M_isLess 134 = .ok (.goto 4, 3) := by decide +kernel
theorem dc_M_isLess_137 : decode bc_M_isLess 137 = .ok (.iconst 0, 1) := by decide +kernel
theorem dc_M_isLess_138 : decode bc_M_isLess 138 = .ok (.ireturn, 1) := by decide +kernel
theorem dc_M_isLess_139 : decode bc_M_isLess 139 = .ok (.lload 10, 2) := by decide +kernel
theorem dc_M_isLess_141 : decode bc_M_isLess 141 = .ok (.lstore 8, 2) := by decide +kernel
theorem dc_M_isLess_143 : decode bc_M_isLess 143 = .ok (.lload 21, 2) := by decide +kernel
theorem dc_M_isLess_145 : decode bc_M_isLess 145 = .ok (.lstore 10, 2) := by decide +kernel
theorem dc_M_isLess_147 : decode bc_M_isLess 147 = .ok (.lload 14, 2) := by decide +kernel
theorem dc_M_isLess_149 : decode bc_M_isLess 149 = .ok (.lstore 12, 2) := by decide +kernel
theorem dc_M_isLess_151 : decode bc_M_isLess 151 = .ok (.lload 23, 2) := by decide +kernel
theorem dc_M_isLess_153 : decode bc_M_isLess 153 = .ok (.lstore 14, 2) := by decide +kernel
theorem dc_M_isLess_155 : decode bc_M_isLess 155 = .ok (.iload 16, 2) := by decide +kernel
theorem dc_M_isLess_157 : decode bc_M_isLess 157 = .ok (.ifCond .ne 7, 3) := by decide +kernel
theorem dc_M_isLess_160 : decode bc_M_isLess 160 = .ok (.iconst 1, 1) := by decide +kernel
theorem dc_M_isLess_161 : decode bc_M_isLess 161 = .ok (.goto 4, 3) := by decide +kernel
theorem dc_M_isLess_164 : decode bc_M_isLess 164 = .ok (.iconst 0, 1) := by decide +kernel
theorem dc_M_isLess_165 : decode bc_M_isLess 165 = .ok (.istore 16, 2) := by decide +kernel
theorem dc_M_isLess_167 : decode bc_M_isLess 167 = .ok (.goto (-150), 3) := by decide +kernel
theorem dc_M_down_0 : decode bc_M_down 0 = .ok (.lload_n 0, 1) := by decide +kernel
theorem dc_M_down_1 : decode bc_M_down 1 = .ok (.lload_n 2, 1) := by decide +kernel
theorem dc_M_down_2 : decode bc_M_down 2 = .ok (.ldiv, 1) := by decide +kernel
theorem dc_M_down_3 : decode bc_M_down 3 = .ok (.lstore 4, 2) := by decide +kernel
theorem dc_M_down_5 : decode bc_M_down 5 = .ok (.lload 4, 2) := by decide +kernel
theorem dc_M_down_7 : decode bc_M_down 7 = .ok (.lload_n 2, 1) := by decide +kernel
theorem dc_M_down_8 : decode bc_M_down 8 = .ok (.lmul, 1) := by decide +kernel
theorem dc_M_down_9 : decode bc_M_down 9 = .ok (.lload_n 0, 1) := by decide +kernel
theorem dc_M_down_10 : decode bc_M_down 10 = .ok (.lcmp, 1) := by decide +kernel
theorem dc_M_down_11 : decode bc_M_down 11 = .ok (.ifCond .le 10, 3) := by decide +kernel
theorem dc_M_down_14 : decode bc_M_down 14 = .ok (.lload 4, 2) := by decide +kernel
theorem dc_M_down_16 : decode bc_M_down 16 = .ok (.lconst 1, 1) := by decide +kernel
theorem dc_M_down_17 : decode bc_M_down 17 = .ok (.lsub, 1) := by decide +kernel
theorem dc_M_down_18 : decode bc_M_down 18 = .ok (.goto 5, 3) := by decide +kernel
theorem dc_M_down_21 : decode bc_M_down 21 = .ok (.lload 4, 2) := by decide +kernel
theorem dc_M_down_23 : decode bc_M_down 23 = .ok (.lreturn, 1) := by decide +kernel
theorem dc_M_choke_0 : decode bc_M_choke 0 = .ok (.aload_n 0, 1) := by decide +kernel
theorem dc_M_choke_1 : decode bc_M_choke 1 = .ok (.iload_n 1, 1) := by decide +kernel
theorem dc_M_choke_2 : decode bc_M_choke 2 = .ok (.invokevirtual 100, 3) := by decide +kernel
theorem dc_M_choke_5 : decode bc_M_choke 5 = .ok (.ifCond .ne 5, 3) := by decide +kernel
theorem dc_M_choke_8 : decode bc_M_choke 8 = .ok (.iconst (-1), 1) := by decide +kernel
theorem dc_M_choke_9 : decode bc_M_choke 9 = .ok (.ireturn, 1) := by decide +kernel
theorem dc_M_choke_10 : decode bc_M_choke 10 = .ok (.iconst (-1), 1) := by decide +kernel
theorem dc_M_choke_11 : decode bc_M_choke 11 = .ok (.istore_n 2, 1) := by decide +kernel
theorem dc_M_choke_12 : decode bc_M_choke 12 = .ok (.iconst 0, 1) := by decide +kernel
theorem dc_M_choke_13 : decode bc_M_choke 13 = .ok (.istore_n 3, 1) := by decide +kernel
theorem dc_M_choke_14 : decode bc_M_choke 14 = .ok (.iload_n 3, 1) := by decide +kernel
theorem dc_M_choke_15 : decode bc_M_choke 15 = .ok (.aload_n 0, 1) := by decide +kernel
theorem dc_M_choke_16 : decode bc_M_choke 16 = .ok (.getfield 79, 3) := by decide +kernel
theorem dc_M_choke_19 : decode bc_M_choke 19 = .ok (.if_icmp .ge 76, 3) := by decide +kernel
theorem dc_M_choke_22 : decode bc_M_choke 22 = .ok (.aload_n 0, 1) := by decide +kernel
theorem dc_M_choke_23 : decode bc_M_choke 23 = .ok (.getfield 45, 3) := by decide +kernel
theorem dc_M_choke_26 : decode bc_M_choke 26 = .ok (.bipush 12, 2) := by decide +kernel
theorem dc_M_choke_28 : decode bc_M_choke 28 = .ok (.iload_n 3, 1) := by decide +kernel
theorem dc_M_choke_29 : decode bc_M_choke 29 = .ok (.imul, 1) := by decide +kernel
theorem dc_M_choke_30 : decode bc_M_choke 30 = .ok (.iload_n 1, 1) := by decide +kernel
theorem dc_M_choke_31 : decode bc_M_choke 31 = .ok (.iadd, 1) := by decide +kernel
theorem dc_M_choke_32 : decode bc_M_choke 32 = .ok (.laload, 1) := by decide +kernel
theorem dc_M_choke_33 : decode bc_M_choke 33 = .ok (.lstore 4, 2) := by decide +kernel
theorem dc_M_choke_35 : decode bc_M_choke 35 = .ok (.aload_n 0, 1) := by decide +kernel
theorem dc_M_choke_36 : decode bc_M_choke 36 = .ok (.getfield 20, 3) := by decide +kernel
theorem dc_M_choke_39 : decode bc_M_choke 39 = .ok (.iload_n 3, 1) := by decide +kernel
theorem dc_M_choke_40 : decode bc_M_choke 40 = .ok (.baload, 1) := by decide +kernel
theorem dc_M_choke_41 : decode bc_M_choke 41 = .ok (.ifCond .eq 48, 3) := by decide +kernel
theorem dc_M_choke_44 : decode bc_M_choke 44 = .ok (.lload 4, 2) := by decide +kernel
theorem dc_M_choke_46 : decode bc_M_choke 46 = .ok (.lconst 0, 1) := by decide +kernel
theorem dc_M_choke_47 : decode bc_M_choke 47 = .ok (.lcmp, 1) := by decide +kernel
theorem dc_M_choke_48 : decode bc_M_choke 48 = .ok (.ifCond .le 41, 3) := by decide +kernel
theorem dc_M_choke_51 : decode bc_M_choke 51 = .ok (.iload_n 2, 1) := by decide +kernel
theorem dc_M_choke_52 : decode bc_M_choke 52 = .ok (.iconst (-1), 1) := by decide +kernel
theorem dc_M_choke_53 : decode bc_M_choke 53 = .ok (.if_icmp .eq 34, 3) := by decide +kernel
theorem dc_M_choke_56 : decode bc_M_choke 56 = .ok (.aload_n 0, 1) := by decide +kernel
theorem dc_M_choke_57 : decode bc_M_choke 57 = .ok (.iload_n 3, 1) := by decide +kernel
theorem dc_M_choke_58 : decode bc_M_choke 58 = .ok (.iload_n 1, 1) := by decide +kernel
theorem dc_M_choke_59 : decode bc_M_choke 59 = .ok (.invokevirtual 125, 3) := by decide +kernel
theorem dc_M_choke_62 : decode bc_M_choke 62 = .ok (.lload 4, 2) := by decide +kernel
theorem dc_M_choke_64 : decode bc_M_choke 64 = .ok (.aload_n 0, 1) := by decide +kernel
theorem dc_M_choke_65 : decode bc_M_choke 65 = .ok (.iload_n 2, 1) := by decide +kernel
theorem dc_M_choke_66 : decode bc_M_choke 66 = .ok (.iload_n 1, 1) := by decide +kernel
theorem dc_M_choke_67 : decode bc_M_choke 67 = .ok (.invokevirtual 125, 3) := by decide +kernel
theorem dc_M_choke_70 : decode bc_M_choke 70 = .ok (.aload_n 0, 1) := by decide +kernel
theorem dc_M_choke_71 : decode bc_M_choke 71 = .ok (.getfield 45, 3) := by decide +kernel
theorem dc_M_choke_74 : decode bc_M_choke 74 = .ok (.bipush 12, 2) := by decide +kernel
theorem dc_M_choke_76 : decode bc_M_choke 76 = .ok (.iload_n 2, 1) := by decide +kernel
theorem dc_M_choke_77 : decode bc_M_choke 77 = .ok (.imul, 1) := by decide +kernel
theorem dc_M_choke_78 : decode bc_M_choke 78 = .ok (.iload_n 1, 1) := by decide +kernel
theorem dc_M_choke_79 : decode bc_M_choke 79 = .ok (.iadd, 1) := by decide +kernel
theorem dc_M_choke_80 : decode bc_M_choke 80 = .ok (.laload, 1) := by decide +kernel
theorem dc_M_choke_81 : decode bc_M_choke 81 = .ok (.invokestatic 161, 3) := by decide +kernel
theorem dc_M_choke_84 : decode bc_M_choke 84 = .ok (.ifCond .eq 5, 3) := by decide +kernel
theorem dc_M_choke_87 : decode bc_M_choke 87 = .ok (.iload_n 3, 1) := by decide +kernel
theorem dc_M_choke_88 : decode bc_M_choke 88 = .ok (.istore_n 2, 1) := by decide +kernel
theorem dc_M_choke_89 : decode bc_M_choke 89 = .ok (.iinc 3 1, 3) := by decide +kernel
theorem dc_M_choke_92 : decode bc_M_choke 92 = .ok (.goto (-78), 3) := by decide +kernel
theorem dc_M_choke_95 : decode bc_M_choke 95 = .ok (.iload_n 2, 1) := by decide +kernel
theorem dc_M_choke_96 : decode bc_M_choke 96 = .ok (.ireturn, 1) := by decide +kernel
theorem dc_M_closes_0 : decode bc_M_closes 0 = .ok (.aload_n 0, 1) := by decide +kernel
theorem dc_M_closes_1 : decode bc_M_closes 1 = .ok (.iload_n 1, 1) := by decide +kernel
theorem dc_M_closes_2 : decode bc_M_closes 2 = .ok (.invokevirtual 97, 3) := by decide +kernel
theorem dc_M_closes_5 : decode bc_M_closes 5 = .ok (.ifCond .eq 23, 3) := by decide +kernel
theorem dc_M_closes_8 : decode bc_M_closes 8 = .ok (.aload_n 0, 1) := by decide +kernel
theorem dc_M_closes_9 : decode bc_M_closes 9 = .ok (.getfield 20, 3) := by decide +kernel
theorem dc_M_closes_12 : decode bc_M_closes 12 = .ok (.iload_n 1, 1) := by decide +kernel
theorem dc_M_closes_13 : decode bc_M_closes 13 = .ok (.baload, 1) := by decide +kernel
theorem dc_M_closes_14 : decode bc_M_closes 14 = .ok (.ifCond .eq 14, 3) := by decide +kernel
theorem dc_M_closes_17 : decode bc_M_closes 17 = .ok (.lload_n 2, 1) := by decide +kernel
theorem dc_M_closes_18 : decode bc_M_closes 18 = .ok (.lconst 1, 1) := by decide +kernel
theorem dc_M_closes_19 : decode bc_M_closes 19 = .ok (.ldc2_w 91, 3) := by decide +kernel
theorem dc_M_closes_22 : decode bc_M_closes 22 = .ok (.invokestatic 82, 3) := by decide +kernel
theorem dc_M_closes_25 : decode bc_M_closes 25 = .ok (.ifCond .ne 7, 3) := by decide +kernel
theorem dc_M_closes_28 : decode bc_M_closes 28 = .ok (.ldc2_w 109, 3) := by decide +kernel
theorem dc_M_closes_31 : decode bc_M_closes 31 = .ok (.lreturn, 1) := by decide +kernel
theorem dc_M_closes_32 : decode bc_M_closes 32 = .ok (.lconst 0, 1) := by decide +kernel
theorem dc_M_closes_33 : decode bc_M_closes 33 = .ok (.lstore 4, 2) := by decide +kernel
theorem dc_M_closes_35 : decode bc_M_closes 35 = .ok (.iconst 0, 1) := by decide +kernel
theorem dc_M_closes_36 : decode bc_M_closes 36 = .ok (.istore 6, 2) := by decide +kernel
theorem dc_M_closes_38 : decode bc_M_closes 38 = .ok (.iload 6, 2) := by decide +kernel
theorem dc_M_closes_40 : decode bc_M_closes 40 = .ok (.aload_n 0, 1) := by decide +kernel
theorem dc_M_closes_41 : decode bc_M_closes 41 = .ok (.getfield 86, 3) := by decide +kernel
theorem dc_M_closes_44 : decode bc_M_closes 44 = .ok (.if_icmp .ge 37, 3) := by decide +kernel
theorem dc_M_closes_47 : decode bc_M_closes 47 = .ok (.aload_n 0, 1) := by decide +kernel
theorem dc_M_closes_48 : decode bc_M_closes 48 = .ok (.iload_n 1, 1) := by decide +kernel
theorem dc_M_closes_49 : decode bc_M_closes 49 = .ok (.iload 6, 2) := by decide +kernel
theorem dc_M_closes_51 : decode bc_M_closes 51 = .ok (.invokevirtual 125, 3) := by decide +kernel
theorem dc_M_closes_54 : decode bc_M_closes 54 = .ok (.lstore 7, 2) := by decide +kernel
theorem dc_M_closes_56 : decode bc_M_closes 56 = .ok (.lload 7, 2) := by decide +kernel
theorem dc_M_closes_58 : decode bc_M_closes 58 = .ok (.lconst 0, 1) := by decide +kernel
theorem dc_M_closes_59 : decode bc_M_closes 59 = .ok (.lcmp, 1) := by decide +kernel
theorem dc_M_closes_60 : decode bc_M_closes 60 = .ok (.ifCond .le 11, 3) := by decide +kernel
theorem dc_M_closes_63 : decode bc_M_closes 63 = .ok (.lload 4, 2) := by decide +kernel
theorem dc_M_closes_65 : decode bc_M_closes 65 = .ok (.lload 7, 2) := by decide +kernel
theorem dc_M_closes_67 : decode bc_M_closes 67 = .ok (.ladd, 1) := by decide +kernel
theorem dc_M_closes_68 : decode bc_M_closes 68 = .ok (.goto 5, 3) := by decide +kernel
theorem dc_M_closes_71 : decode bc_M_closes 71 = .ok (.lload 4, 2) := by decide +kernel
theorem dc_M_closes_73 : decode bc_M_closes 73 = .ok (.lstore 4, 2) := by decide +kernel
theorem dc_M_closes_75 : decode bc_M_closes 75 = .ok (.iinc 6 1, 3) := by decide +kernel
theorem dc_M_closes_78 : decode bc_M_closes 78 = .ok (.goto (-40), 3) := by decide +kernel
theorem dc_M_closes_81 : decode bc_M_closes 81 = .ok (.lload 4, 2) := by decide +kernel
theorem dc_M_closes_83 : decode bc_M_closes 83 = .ok (.lload_n 2, 1) := by decide +kernel
theorem dc_M_closes_84 : decode bc_M_closes 84 = .ok (.ladd, 1) := by decide +kernel
theorem dc_M_closes_85 : decode bc_M_closes 85 = .ok (.lconst 1, 1) := by decide +kernel
theorem dc_M_closes_86 : decode bc_M_closes 86 = .ok (.lsub, 1) := by decide +kernel
theorem dc_M_closes_87 : decode bc_M_closes 87 = .ok (.lload_n 2, 1) := by decide +kernel
theorem dc_M_closes_88 : decode bc_M_closes 88 = .ok (.ldiv, 1) := by decide +kernel
theorem dc_M_closes_89 : decode bc_M_closes 89 = .ok (.lreturn, 1) := by decide +kernel
theorem dc_M_seen_0 : decode bc_M_seen 0 = .ok (.aload_n 0, 1) := by decide +kernel
theorem dc_M_seen_1 : decode bc_M_seen 1 = .ok (.iload_n 1, 1) := by decide +kernel
theorem dc_M_seen_2 : decode bc_M_seen 2 = .ok (.invokevirtual 97, 3) := by decide +kernel
theorem dc_M_seen_5 : decode bc_M_seen 5 = .ok (.ifCond .eq 26, 3) := by decide +kernel
theorem dc_M_seen_8 : decode bc_M_seen 8 = .ok (.lload_n 2, 1) := by decide +kernel
theorem dc_M_seen_9 : decode bc_M_seen 9 = .ok (.lconst 0, 1) := by decide +kernel
theorem dc_M_seen_10 : decode bc_M_seen 10 = .ok (.ldc2_w 103, 3) := by decide +kernel
theorem dc_M_seen_13 : decode bc_M_seen 13 = .ok (.invokestatic 82, 3) := by decide +kernel
theorem dc_M_seen_16 : decode bc_M_seen 16 = .ok (.ifCond .eq 15, 3) := by decide +kernel
theorem dc_M_seen_19 : decode bc_M_seen 19 = .ok (.lload 4, 2) := by decide +kernel
theorem dc_M_seen_21 : decode bc_M_seen 21 = .ok (.lconst 0, 1) := by decide +kernel
theorem dc_M_seen_22 : decode bc_M_seen 22 = .ok (.ldc2_w 103, 3) := by decide +kernel
theorem dc_M_seen_25 : decode bc_M_seen 25 = .ok (.invokestatic 82, 3) := by decide +kernel
theorem dc_M_seen_28 : decode bc_M_seen 28 = .ok (.ifCond .ne 5, 3) := by decide +kernel
theorem dc_M_seen_31 : decode bc_M_seen 31 = .ok (.iconst 0, 1) := by decide +kernel
theorem dc_M_seen_32 : decode bc_M_seen 32 = .ok (.ireturn, 1) := by decide +kernel
theorem dc_M_seen_33 : decode bc_M_seen 33 = .ok (.aload_n 0, 1) := by decide +kernel
theorem dc_M_seen_34 : decode bc_M_seen 34 = .ok (.getfield 30, 3) := by decide +kernel
theorem dc_M_seen_37 : decode bc_M_seen 37 = .ok (.iload_n 1, 1) := by decide +kernel
theorem dc_M_seen_38 : decode bc_M_seen 38 = .ok (.laload, 1) := by decide +kernel
theorem dc_M_seen_39 : decode bc_M_seen 39 = .ok (.lload_n 2, 1) := by decide +kernel
theorem dc_M_seen_40 : decode bc_M_seen 40 = .ok (.ladd, 1) := by decide +kernel
theorem dc_M_seen_41 : decode bc_M_seen 41 = .ok (.ldc2_w 103, 3) := by decide +kernel
theorem dc_M_seen_44 : decode bc_M_seen 44 = .ok (.lcmp, 1) := by decide +kernel
theorem dc_M_seen_45 : decode bc_M_seen 45 = .ok (.ifCond .gt 19, 3) := by decide +kernel
theorem dc_M_seen_48 : decode bc_M_seen 48 = .ok (.aload_n 0, 1) := by decide +kernel
theorem dc_M_seen_49 : decode bc_M_seen 49 = .ok (.getfield 33, 3) := by decide +kernel
theorem dc_M_seen_52 : decode bc_M_seen 52 = .ok (.iload_n 1, 1) := by decide +kernel
theorem dc_M_seen_53 : decode bc_M_seen 53 = .ok (.laload, 1) := by decide +kernel
theorem dc_M_seen_54 : decode bc_M_seen 54 = .ok (.lload 4, 2) := by decide +kernel
theorem dc_M_seen_56 : decode bc_M_seen 56 = .ok (.ladd, 1) := by decide +kernel
theorem dc_M_seen_57 : decode bc_M_seen 57 = .ok (.ldc2_w 103, 3) := by decide +kernel
theorem dc_M_seen_60 : decode bc_M_seen 60 = .ok (.lcmp, 1) := by decide +kernel
theorem dc_M_seen_61 : decode bc_M_seen 61 = .ok (.ifCond .le 5, 3) := by decide +kernel
theorem dc_M_seen_64 : decode bc_M_seen 64 = .ok (.iconst 0, 1) := by decide +kernel
theorem dc_M_seen_65 : decode bc_M_seen 65 = .ok (.ireturn, 1) := by decide +kernel
theorem dc_M_seen_66 : decode bc_M_seen 66 = .ok (.aload_n 0, 1) := by decide +kernel
theorem dc_M_seen_67 : decode bc_M_seen 67 = .ok (.getfield 30, 3) := by decide +kernel
theorem dc_M_seen_70 : decode bc_M_seen 70 = .ok (.iload_n 1, 1) := by decide +kernel
theorem dc_M_seen_71 : decode bc_M_seen 71 = .ok (.aload_n 0, 1) := by decide +kernel
theorem dc_M_seen_72 : decode bc_M_seen 72 = .ok (.getfield 30, 3) := by decide +kernel
theorem dc_M_seen_75 : decode bc_M_seen 75 = .ok (.iload_n 1, 1) := by decide +kernel
theorem dc_M_seen_76 : decode bc_M_seen 76 = .ok (.laload, 1) := by decide +kernel
theorem dc_M_seen_77 : decode bc_M_seen 77 = .ok (.lload_n 2, 1) := by decide +kernel
theorem dc_M_seen_78 : decode bc_M_seen 78 = .ok (.ladd, 1) := by decide +kernel
theorem dc_M_seen_79 : decode bc_M_seen 79 = .ok (.lastore, 1) := by decide +kernel
theorem dc_M_seen_80 : decode bc_M_seen 80 = .ok (.aload_n 0, 1) := by decide +kernel
theorem dc_M_seen_81 : decode bc_M_seen 81 = .ok (.getfield 33, 3) := by decide +kernel
theorem dc_M_seen_84 : decode bc_M_seen 84 = .ok (.iload_n 1, 1) := by decide +kernel
theorem dc_M_seen_85 : decode bc_M_seen 85 = .ok (.aload_n 0, 1) := by decide +kernel
theorem dc_M_seen_86 : decode bc_M_seen 86 = .ok (.getfield 33, 3) := by decide +kernel
theorem dc_M_seen_89 : decode bc_M_seen 89 = .ok (.iload_n 1, 1) := by decide +kernel
theorem dc_M_seen_90 : decode bc_M_seen 90 = .ok (.laload, 1) := by decide +kernel
theorem dc_M_seen_91 : decode bc_M_seen 91 = .ok (.lload 4, 2) := by decide +kernel
theorem dc_M_seen_93 : decode bc_M_seen 93 = .ok (.ladd, 1) := by decide +kernel
theorem dc_M_seen_94 : decode bc_M_seen 94 = .ok (.lastore, 1) := by decide +kernel
theorem dc_M_seen_95 : decode bc_M_seen 95 = .ok (.iconst 1, 1) := by decide +kernel
theorem dc_M_seen_96 : decode bc_M_seen 96 = .ok (.ireturn, 1) := by decide +kernel
theorem dc_M_allLandings_0 : decode bc_M_allLandings 0 = .ok (.lconst 0, 1) := by decide +kernel
theorem dc_M_allLandings_1 : decode bc_M_allLandings 1 = .ok (.lstore_n 2, 1) := by decide +kernel
theorem dc_M_allLandings_2 : decode bc_M_allLandings 2 = .ok (.iconst 0, 1) := by decide +kernel
theorem dc_M_allLandings_3 : decode bc_M_allLandings 3 = .ok (.istore 4, 2) := by decide +kernel
theorem dc_M_allLandings_5 : decode bc_M_allLandings 5 = .ok (.iload 4, 2) := by decide +kernel
theorem dc_M_allLandings_7 : decode bc_M_allLandings 7 = .ok (.aload_n 0, 1) := by decide +kernel
theorem dc_M_allLandings_8 : decode bc_M_allLandings 8 = .ok (.getfield 115, 3) := by decide +kernel
theorem dc_M_allLandings_11 : decode bc_M_allLandings 11 = .ok (.if_icmp .ge 37, 3) := by decide +kernel
theorem dc_M_allLandings_14 : decode bc_M_allLandings 14 = .ok (.aload_n 0, 1) := by decide +kernel
theorem dc_M_allLandings_15 : decode bc_M_allLandings 15 = .ok (.getfield 51, 3) := by decide +kernel
theorem dc_M_allLandings_18 : decode bc_M_allLandings 18 = .ok (.iload 4, 2) := by decide +kernel
theorem dc_M_allLandings_20 : decode bc_M_allLandings 20 = .ok (.iaload, 1) := by decide +kernel
theorem dc_M_allLandings_21 : decode bc_M_allLandings 21 = .ok (.bipush 12, 2) := by decide +kernel
theorem dc_M_allLandings_23 : decode bc_M_allLandings 23 = .ok (.idiv, 1) := by decide +kernel
theorem dc_M_allLandings_24 : decode bc_M_allLandings 24 = .ok (.iload_n 1, 1) := by decide +kernel
theorem dc_M_allLandings_25 : decode bc_M_allLandings 25 = .ok (.if_icmp .ne 15, 3) := by decide +kernel
theorem dc_M_allLandings_28 : decode bc_M_allLandings 28 = .ok (.lload_n 2, 1) := by decide +kernel
theorem dc_M_allLandings_29 : decode bc_M_allLandings 29 = .ok (.aload_n 0, 1) := by decide +kernel
theorem dc_M_allLandings_30 : decode bc_M_allLandings 30 = .ok (.getfield 54, 3) := by decide +kernel
theorem dc_M_allLandings_33 : decode bc_M_allLandings 33 = .ok (.iload 4, 2) := by decide +kernel
theorem dc_M_allLandings_35 : decode bc_M_allLandings 35 = .ok (.laload, 1) := by decide +kernel
theorem dc_M_allLandings_36 : decode bc_M_allLandings 36 = .ok (.ladd, 1) := by decide +kernel
theorem dc_M_allLandings_37 : decode bc_M_allLandings 37 = .ok (.goto 4, 3) := by decide +kernel
theorem dc_M_allLandings_40 : decode bc_M_allLandings 40 = .ok (.lload_n 2, 1) := by decide +kernel
theorem dc_M_allLandings_41 : decode bc_M_allLandings 41 = .ok (.lstore_n 2, 1) := by decide +kernel
theorem dc_M_allLandings_42 : decode bc_M_allLandings 42 = .ok (.iinc 4 1, 3) := by decide +kernel
theorem dc_M_allLandings_45 : decode bc_M_allLandings 45 = .ok (.goto (-40), 3) := by decide +kernel
theorem dc_M_allLandings_48 : decode bc_M_allLandings 48 = .ok (.lload_n 2, 1) := by decide +kernel
theorem dc_M_allLandings_49 : decode bc_M_allLandings 49 = .ok (.lreturn, 1) := by decide +kernel
theorem dc_M_discard_0 : decode bc_M_discard 0 = .ok (.aload_n 0, 1) := by decide +kernel
theorem dc_M_discard_1 : decode bc_M_discard 1 = .ok (.iload_n 1, 1) := by decide +kernel
theorem dc_M_discard_2 : decode bc_M_discard 2 = .ok (.invokevirtual 97, 3) := by decide +kernel
theorem dc_M_discard_5 : decode bc_M_discard 5 = .ok (.ifCond .eq 14, 3) := by decide +kernel
theorem dc_M_discard_8 : decode bc_M_discard 8 = .ok (.aload_n 0, 1) := by decide +kernel
theorem dc_M_discard_9 : decode bc_M_discard 9 = .ok (.getfield 30, 3) := by decide +kernel
theorem dc_M_discard_12 : decode bc_M_discard 12 = .ok (.iload_n 1, 1) := by decide +kernel
theorem dc_M_discard_13 : decode bc_M_discard 13 = .ok (.laload, 1) := by decide +kernel
theorem dc_M_discard_14 : decode bc_M_discard 14 = .ok (.lconst 0, 1) := by decide +kernel
theorem dc_M_discard_15 : decode bc_M_discard 15 = .ok (.lcmp, 1) := by decide +kernel
theorem dc_M_discard_16 : decode bc_M_discard 16 = .ok (.ifCond .ne 7, 3) := by decide +kernel
theorem dc_M_discard_19 : decode bc_M_discard 19 = .ok (.ldc2_w 109, 3) := by decide +kernel
theorem dc_M_discard_22 : decode bc_M_discard 22 = .ok (.lreturn, 1) := by decide +kernel
theorem dc_M_discard_23 : decode bc_M_discard 23 = .ok (.aload_n 0, 1) := by decide +kernel
theorem dc_M_discard_24 : decode bc_M_discard 24 = .ok (.iload_n 1, 1) := by decide +kernel
theorem dc_M_discard_25 : decode bc_M_discard 25 = .ok (.invokevirtual 165, 3) := by decide +kernel
theorem dc_M_discard_28 : decode bc_M_discard 28 = .ok (.aload_n 0, 1) := by decide +kernel
theorem dc_M_discard_29 : decode bc_M_discard 29 = .ok (.getfield 33, 3) := by decide +kernel
theorem dc_M_discard_32 : decode bc_M_discard 32 = .ok (.iload_n 1, 1) := by decide +kernel
theorem dc_M_discard_33 : decode bc_M_discard 33 = .ok (.laload, 1) := by decide +kernel
theorem dc_M_discard_34 : decode bc_M_discard 34 = .ok (.lmul, 1) := by decide +kernel
theorem dc_M_discard_35 : decode bc_M_discard 35 = .ok (.aload_n 0, 1) := by decide +kernel
theorem dc_M_discard_36 : decode bc_M_discard 36 = .ok (.getfield 30, 3) := by decide +kernel
theorem dc_M_discard_39 : decode bc_M_discard 39 = .ok (.iload_n 1, 1) := by decide +kernel
theorem dc_M_discard_40 : decode bc_M_discard 40 = .ok (.laload, 1) := by decide +kernel
theorem dc_M_discard_41 : decode bc_M_discard 41 = .ok (.ldiv, 1) := by decide +kernel
theorem dc_M_discard_42 : decode bc_M_discard 42 = .ok (.lreturn, 1) := by decide +kernel
theorem dc_M_told_0 : decode bc_M_told 0 = .ok (.aload_n 0, 1) := by decide +kernel
theorem dc_M_told_1 : decode bc_M_told 1 = .ok (.iload_n 1, 1) := by decide +kernel
theorem dc_M_told_2 : decode bc_M_told 2 = .ok (.invokevirtual 97, 3) := by decide +kernel
theorem dc_M_told_5 : decode bc_M_told 5 = .ok (.ifCond .ne 7, 3) := by decide +kernel
theorem dc_M_told_8 : decode bc_M_told 8 = .ok (.ldc2_w 109, 3) := by decide +kernel
theorem dc_M_told_11 : decode bc_M_told 11 = .ok (.lreturn, 1) := by decide +kernel
theorem dc_M_told_12 : decode bc_M_told 12 = .ok (.iload_n 2, 1) := by decide +kernel
theorem dc_M_told_13 : decode bc_M_told 13 = .ok (.ifCond .ne 10, 3) := by decide +kernel
theorem dc_M_told_16 : decode bc_M_told 16 = .ok (.aload_n 0, 1) := by decide +kernel
theorem dc_M_told_17 : decode bc_M_told 17 = .ok (.getfield 7, 3) := by decide +kernel
theorem dc_M_told_20 : decode bc_M_told 20 = .ok (.iload_n 1, 1) := by decide +kernel
theorem dc_M_told_21 : decode bc_M_told 21 = .ok (.laload, 1) := by decide +kernel
theorem dc_M_told_22 : decode bc_M_told 22 = .ok (.lreturn, 1) := by decide +kernel
theorem dc_M_told_23 : decode bc_M_told 23 = .ok (.iload_n 2, 1) := by decide +kernel
theorem dc_M_told_24 : decode bc_M_told 24 = .ok (.iconst 1, 1) := by decide +kernel
theorem dc_M_told_25 : decode bc_M_told 25 = .ok (.if_icmp .ne 10, 3) := by decide +kernel
theorem dc_M_told_28 : decode bc_M_told 28 = .ok (.aload_n 0, 1) := by decide +kernel
theorem dc_M_told_29 : decode bc_M_told 29 = .ok (.getfield 13, 3) := by decide +kernel
theorem dc_M_told_32 : decode bc_M_told 32 = .ok (.iload_n 1, 1) := by decide +kernel
theorem dc_M_told_33 : decode bc_M_told 33 = .ok (.laload, 1) := by decide +kernel
theorem dc_M_told_34 : decode bc_M_told 34 = .ok (.lreturn, 1) := by decide +kernel
theorem dc_M_told_35 : decode bc_M_told 35 = .ok (.iload_n 2, 1) := by decide +kernel
theorem dc_M_told_36 : decode bc_M_told 36 = .ok (.iconst 2, 1) := by decide +kernel
theorem dc_M_told_37 : decode bc_M_told 37 = .ok (.if_icmp .ne 18, 3) := by decide +kernel
theorem dc_M_told_40 : decode bc_M_told 40 = .ok (.aload_n 0, 1) := by decide +kernel
theorem dc_M_told_41 : decode bc_M_told 41 = .ok (.getfield 20, 3) := by decide +kernel
theorem dc_M_told_44 : decode bc_M_told 44 = .ok (.iload_n 1, 1) := by decide +kernel
theorem dc_M_told_45 : decode bc_M_told 45 = .ok (.baload, 1) := by decide +kernel
theorem dc_M_told_46 : decode bc_M_told 46 = .ok (.ifCond .eq 7, 3) := by decide +kernel
theorem dc_M_told_49 : decode bc_M_told 49 = .ok (.lconst 1, 1) := by decide +kernel
theorem dc_M_told_50 : decode bc_M_told 50 = .ok (.goto 4, 3) := by decide +kernel
theorem dc_M_told_53 : decode bc_M_told 53 = .ok (.lconst 0, 1) := by decide +kernel
theorem dc_M_told_54 : decode bc_M_told 54 = .ok (.lreturn, 1) := by decide +kernel
theorem dc_M_told_55 : decode bc_M_told 55 = .ok (.iload_n 2, 1) := by decide +kernel
theorem dc_M_told_56 : decode bc_M_told 56 = .ok (.iconst 3, 1) := by decide +kernel
theorem dc_M_told_57 : decode bc_M_told 57 = .ok (.if_icmp .ne 9, 3) := by decide +kernel
theorem dc_M_told_60 : decode bc_M_told 60 = .ok (.aload_n 0, 1) := by decide +kernel
theorem dc_M_told_61 : decode bc_M_told 61 = .ok (.iload_n 1, 1) := by decide +kernel
theorem dc_M_told_62 : decode bc_M_told 62 = .ok (.invokevirtual 135, 3) := by decide +kernel
theorem dc_M_told_65 : decode bc_M_told 65 = .ok (.lreturn, 1) := by decide +kernel
theorem dc_M_told_66 : decode bc_M_told 66 = .ok (.iload_n 2, 1) := by decide +kernel
theorem dc_M_told_67 : decode bc_M_told 67 = .ok (.iconst 4, 1) := by decide +kernel
theorem dc_M_told_68 : decode bc_M_told 68 = .ok (.if_icmp .ne 9, 3) := by decide +kernel
theorem dc_M_told_71 : decode bc_M_told 71 = .ok (.aload_n 0, 1) := by decide +kernel
theorem dc_M_told_72 : decode bc_M_told 72 = .ok (.iload_n 1, 1) := by decide +kernel
theorem dc_M_told_73 : decode bc_M_told 73 = .ok (.invokevirtual 165, 3) := by decide +kernel
theorem dc_M_told_76 : decode bc_M_told 76 = .ok (.lreturn, 1) := by decide +kernel
theorem dc_M_told_77 : decode bc_M_told 77 = .ok (.iload_n 2, 1) := by decide +kernel
theorem dc_M_told_78 : decode bc_M_told 78 = .ok (.iconst 5, 1) := by decide +kernel
theorem dc_M_told_79 : decode bc_M_told 79 = .ok (.if_icmp .ne 11, 3) := by decide +kernel
theorem dc_M_told_82 : decode bc_M_told 82 = .ok (.aload_n 0, 1) := by decide +kernel
theorem dc_M_told_83 : decode bc_M_told 83 = .ok (.getfield 24, 3) := by decide +kernel
theorem dc_M_told_86 : decode bc_M_told 86 = .ok (.iload_n 1, 1) := by decide +kernel
theorem dc_M_told_87 : decode bc_M_told 87 = .ok (.iaload, 1) := by decide +kernel
theorem dc_M_told_88 : decode bc_M_told 88 = .ok (.i2l, 1) := by decide +kernel
theorem dc_M_told_89 : decode bc_M_told 89 = .ok (.lreturn, 1) := by decide +kernel
theorem dc_M_told_90 : decode bc_M_told 90 = .ok (.iload_n 2, 1) := by decide +kernel
theorem dc_M_told_91 : decode bc_M_told 91 = .ok (.bipush 6, 2) := by decide +kernel
theorem dc_M_told_93 : decode bc_M_told 93 = .ok (.if_icmp .ne 13, 3) := by decide +kernel
theorem dc_M_told_96 : decode bc_M_told 96 = .ok (.aload_n 0, 1) := by decide +kernel
theorem dc_M_told_97 : decode bc_M_told 97 = .ok (.getfield 16, 3) := by decide +kernel
theorem dc_M_told_100 : decode bc_M_told 100 = .ok (.iload_n 1, 1) := by decide +kernel
theorem dc_M_told_101 : decode bc_M_told 101 = .ok (.iaload, 1) := by decide +kernel
theorem dc_M_told_102 : decode bc_M_told 102 = .ok (.i2l, 1) := by decide +kernel
theorem dc_M_told_103 : decode bc_M_told 103 = .ok (.goto 6, 3) := by decide +kernel
theorem dc_M_told_106 : decode bc_M_told 106 = .ok (.ldc2_w 109, 3) := by decide +kernel
theorem dc_M_told_109 : decode bc_M_told 109 = .ok (.lreturn, 1) := by decide +kernel
theorem dc_M_sums_0 : decode bc_M_sums 0 = .ok (.aload_n 0, 1) := by decide +kernel
theorem dc_M_sums_1 : decode bc_M_sums 1 = .ok (.iload_n 1, 1) := by decide +kernel
theorem dc_M_sums_2 : decode bc_M_sums 2 = .ok (.invokevirtual 97, 3) := by decide +kernel
theorem dc_M_sums_5 : decode bc_M_sums 5 = .ok (.ifCond .eq 45, 3) := by decide +kernel
theorem dc_M_sums_8 : decode bc_M_sums 8 = .ok (.aload_n 0, 1) := by decide +kernel
theorem dc_M_sums_9 : decode bc_M_sums 9 = .ok (.getfield 20, 3) := by decide +kernel
theorem dc_M_sums_12 : decode bc_M_sums 12 = .ok (.iload_n 1, 1) := by decide +kernel
theorem dc_M_sums_13 : decode bc_M_sums 13 = .ok (.baload, 1) := by decide +kernel
theorem dc_M_sums_14 : decode bc_M_sums 14 = .ok (.ifCond .eq 36, 3) := by decide +kernel
theorem dc_M_sums_17 : decode bc_M_sums 17 = .ok (.aload_n 0, 1) := by decide +kernel
theorem dc_M_sums_18 : decode bc_M_sums 18 = .ok (.iload_n 1, 1) := by decide +kernel
theorem dc_M_sums_19 : decode bc_M_sums 19 = .ok (.invokevirtual 135, 3) := by decide +kernel
theorem dc_M_sums_22 : decode bc_M_sums 22 = .ok (.aload_n 0, 1) := by decide +kernel
theorem dc_M_sums_23 : decode bc_M_sums 23 = .ok (.getfield 7, 3) := by decide +kernel
theorem dc_M_sums_26 : decode bc_M_sums 26 = .ok (.iload_n 1, 1) := by decide +kernel
theorem dc_M_sums_27 : decode bc_M_sums 27 = .ok (.laload, 1) := by decide +kernel
theorem dc_M_sums_28 : decode bc_M_sums 28 = .ok (.aload_n 0, 1) := by decide +kernel
theorem dc_M_sums_29 : decode bc_M_sums 29 = .ok (.getfield 13, 3) := by decide +kernel
theorem dc_M_sums_32 : decode bc_M_sums 32 = .ok (.iload_n 1, 1) := by decide +kernel
theorem dc_M_sums_33 : decode bc_M_sums 33 = .ok (.laload, 1) := by decide +kernel
theorem dc_M_sums_34 : decode bc_M_sums 34 = .ok (.lsub, 1) := by decide +kernel
theorem dc_M_sums_35 : decode bc_M_sums 35 = .ok (.aload_n 0, 1) := by decide +kernel
theorem dc_M_sums_36 : decode bc_M_sums 36 = .ok (.getfield 27, 3) := by decide +kernel
theorem dc_M_sums_39 : decode bc_M_sums 39 = .ok (.iload_n 1, 1) := by decide +kernel
theorem dc_M_sums_40 : decode bc_M_sums 40 = .ok (.laload, 1) := by decide +kernel
theorem dc_M_sums_41 : decode bc_M_sums 41 = .ok (.ladd, 1) := by decide +kernel
theorem dc_M_sums_42 : decode bc_M_sums 42 = .ok (.lcmp, 1) := by decide +kernel
theorem dc_M_sums_43 : decode bc_M_sums 43 = .ok (.ifCond .ne 7, 3) := by decide +kernel
theorem dc_M_sums_46 : decode bc_M_sums 46 = .ok (.iconst 1, 1) := by decide +kernel
theorem dc_M_sums_47 : decode bc_M_sums 47 = .ok (.goto 4, 3) := by decide +kernel
theorem dc_M_sums_50 : decode bc_M_sums 50 = .ok (.iconst 0, 1) := by decide +kernel
theorem dc_M_sums_51 : decode bc_M_sums 51 = .ok (.ireturn, 1) := by decide +kernel
end
section
theorem dc_W_law_0 : decode bc_W_law 0 = .ok (.new 7, 3) := by decide +kernel
theorem dc_W_law_3 : decode bc_W_law 3 = .ok (.dup, 1) := by decide +kernel
theorem dc_W_law_4 : decode bc_W_law 4 = .ok (.invokespecial 9, 3) := by decide +kernel
theorem dc_W_law_7 : decode bc_W_law 7 = .ok (.astore_n 1, 1) := by decide +kernel
theorem dc_W_law_8 : decode bc_W_law 8 = .ok (.new 10, 3) := by decide +kernel
theorem dc_W_law_11 : decode bc_W_law 11 = .ok (.dup, 1) := by decide +kernel
theorem dc_W_law_12 : decode bc_W_law 12 = .ok (.invokespecial 12, 3) := by decide +kernel
theorem dc_W_law_15 : decode bc_W_law 15 = .ok (.astore_n 2, 1) := by decide +kernel
theorem dc_W_law_16 : decode bc_W_law 16 = .ok (.iconst 0, 1) := by decide +kernel
theorem dc_W_law_17 : decode bc_W_law 17 = .ok (.istore_n 3, 1) := by decide +kernel
theorem dc_W_law_18 : decode bc_W_law 18 = .ok (.iload_n 3, 1) := by decide +kernel
theorem dc_W_law_19 : decode bc_W_law 19 = .ok (.aload_n 0, 1) := by decide +kernel
theorem dc_W_law_20 : decode bc_W_law 20 = .ok (.arraylength, 1) := by decide +kernel
theorem dc_W_law_21 : decode bc_W_law 21 = .ok (.bipush 8, 2) := by decide +kernel
theorem dc_W_law_23 : decode bc_W_law 23 = .ok (.isub, 1) := by decide +kernel
theorem dc_W_law_24 : decode bc_W_law 24 = .ok (.if_icmp .gt 1337, 3) := by decide +kernel
theorem dc_W_law_27 : decode bc_W_law 27 = .ok (.aload_n 0, 1) := by decide +kernel
theorem dc_W_law_28 : decode bc_W_law 28 = .ok (.iload_n 3, 1) := by decide +kernel
theorem dc_W_law_29 : decode bc_W_law 29 = .ok (.iaload, 1) := by decide +kernel
theorem dc_W_law_30 : decode bc_W_law 30 = .ok (.bipush 31, 2) := by decide +kernel
theorem dc_W_law_32 : decode bc_W_law 32 = .ok (.iand, 1) := by decide +kernel
theorem dc_W_law_33 : decode bc_W_law 33 = .ok (.tableswitch 1322 0 25 #[119, 172, 195, 268, 331, 364, 387, 421, 516, 560, 643, 750, 784, 818, 851, 884, 918, 961, 995, 1028, 1051, 1074, 1138, 1241, 1265, 1299], 119) := by decide +kernel
theorem dc_W_law_152 : decode bc_W_law 152 = .ok (.aload_n 1, 1) := by decide +kernel
theorem dc_W_law_153 : decode bc_W_law 153 = .ok (.aload_n 0, 1) := by decide +kernel
theorem dc_W_law_154 : decode bc_W_law 154 = .ok (.iload_n 3, 1) := by decide +kernel
theorem dc_W_law_155 : decode bc_W_law 155 = .ok (.iconst 1, 1) := by decide +kernel
theorem dc_W_law_156 : decode bc_W_law 156 = .ok (.iadd, 1) := by decide +kernel
theorem dc_W_law_157 : decode bc_W_law 157 = .ok (.iaload, 1) := by decide +kernel
theorem dc_W_law_158 : decode bc_W_law 158 = .ok (.i2l, 1) := by decide +kernel
theorem dc_W_law_159 : decode bc_W_law 159 = .ok (.bipush 32, 2) := by decide +kernel
theorem dc_W_law_161 : decode bc_W_law 161 = .ok (.lshl, 1) := by decide +kernel
theorem dc_W_law_162 : decode bc_W_law 162 = .ok (.aload_n 0, 1) := by decide +kernel
theorem dc_W_law_163 : decode bc_W_law 163 = .ok (.iload_n 3, 1) := by decide +kernel
theorem dc_W_law_164 : decode bc_W_law 164 = .ok (.iconst 2, 1) := by decide +kernel
theorem dc_W_law_165 : decode bc_W_law 165 = .ok (.iadd, 1) := by decide +kernel
theorem dc_W_law_166 : decode bc_W_law 166 = .ok (.iaload, 1) := by decide +kernel
theorem dc_W_law_167 : decode bc_W_law 167 = .ok (.i2l, 1) := by decide +kernel
theorem dc_W_law_168 : decode bc_W_law 168 = .ok (.ldc2_w 13, 3) := by decide +kernel
theorem dc_W_law_171 : decode bc_W_law 171 = .ok (.land, 1) := by decide +kernel
theorem dc_W_law_172 : decode bc_W_law 172 = .ok (.lor, 1) := by decide +kernel
theorem dc_W_law_173 : decode bc_W_law 173 = .ok (.invokevirtual 15, 3) := by decide +kernel
theorem dc_W_law_176 : decode bc_W_law 176 = .ok (.aload_n 2, 1) := by decide +kernel
theorem dc_W_law_177 : decode bc_W_law 177 = .ok (.aload_n 0, 1) := by decide +kernel
theorem dc_W_law_178 : decode bc_W_law 178 = .ok (.iload_n 3, 1) := by decide +kernel
theorem dc_W_law_179 : decode bc_W_law 179 = .ok (.iconst 1, 1) := by decide +kernel
theorem dc_W_law_180 : decode bc_W_law 180 = .ok (.iadd, 1) := by decide +kernel
theorem dc_W_law_181 : decode bc_W_law 181 = .ok (.iaload, 1) := by decide +kernel
theorem dc_W_law_182 : decode bc_W_law 182 = .ok (.i2l, 1) := by decide +kernel
theorem dc_W_law_183 : decode bc_W_law 183 = .ok (.bipush 32, 2) := by decide +kernel
theorem dc_W_law_185 : decode bc_W_law 185 = .ok (.lshl, 1) := by decide +kernel
theorem dc_W_law_186 : decode bc_W_law 186 = .ok (.aload_n 0, 1) := by decide +kernel
theorem dc_W_law_187 : decode bc_W_law 187 = .ok (.iload_n 3, 1) := by decide +kernel
theorem dc_W_law_188 : decode bc_W_law 188 = .ok (.iconst 2, 1) := by decide +kernel
theorem dc_W_law_189 : decode bc_W_law 189 = .ok (.iadd, 1) := by decide +kernel
theorem dc_W_law_190 : decode bc_W_law 190 = .ok (.iaload, 1) := by decide +kernel
theorem dc_W_law_191 : decode bc_W_law 191 = .ok (.i2l, 1) := by decide +kernel
theorem dc_W_law_192 : decode bc_W_law 192 = .ok (.ldc2_w 13, 3) := by decide +kernel
theorem dc_W_law_195 : decode bc_W_law 195 = .ok (.land, 1) := by decide +kernel
theorem dc_W_law_196 : decode bc_W_law 196 = .ok (.lor, 1) := by decide +kernel
theorem dc_W_law_197 : decode bc_W_law 197 = .ok (.invokevirtual 19, 3) := by decide +kernel
theorem dc_W_law_200 : decode bc_W_law 200 = .ok (.if_icmp .eq 1155, 3) := by decide +kernel
theorem dc_W_law_203 : decode bc_W_law 203 = .ok (.iconst 0, 1) := by decide +kernel
theorem dc_W_law_204 : decode bc_W_law 204 = .ok (.ireturn, 1) := by decide +kernel
theorem dc_W_law_205 : decode bc_W_law 205 = .ok (.aload_n 1, 1) := by decide +kernel
theorem dc_W_law_206 : decode bc_W_law 206 = .ok (.aload_n 0, 1) := by decide +kernel
theorem dc_W_law_207 : decode bc_W_law 207 = .ok (.iload_n 3, 1) := by decide +kernel
theorem dc_W_law_208 : decode bc_W_law 208 = .ok (.iconst 1, 1) := by decide +kernel
theorem dc_W_law_209 : decode bc_W_law 209 = .ok (.iadd, 1) := by decide +kernel
theorem dc_W_law_210 : decode bc_W_law 210 = .ok (.iaload, 1) := by decide +kernel
theorem dc_W_law_211 : decode bc_W_law 211 = .ok (.invokevirtual 20, 3) := by decide +kernel
theorem dc_W_law_214 : decode bc_W_law 214 = .ok (.aload_n 2, 1) := by decide +kernel
theorem dc_W_law_215 : decode bc_W_law 215 = .ok (.aload_n 0, 1) := by decide +kernel
theorem dc_W_law_216 : decode bc_W_law 216 = .ok (.iload_n 3, 1) := by decide +kernel
theorem dc_W_law_217 : decode bc_W_law 217 = .ok (.iconst 1, 1) := by decide +kernel
theorem dc_W_law_218 : decode bc_W_law 218 = .ok (.iadd, 1) := by decide +kernel
theorem dc_W_law_219 : decode bc_W_law 219 = .ok (.iaload, 1) := by decide +kernel
theorem dc_W_law_220 : decode bc_W_law 220 = .ok (.invokevirtual 24, 3) := by decide +kernel
theorem dc_W_law_223 : decode bc_W_law 223 = .ok (.if_icmp .eq 1132, 3) := by decide +kernel
theorem dc_W_law_226 : decode bc_W_law 226 = .ok (.iconst 0, 1) := by decide +kernel
theorem dc_W_law_227 : decode bc_W_law 227 = .ok (.ireturn, 1) := by decide +kernel
theorem dc_W_law_228 : decode bc_W_law 228 = .ok (.aload_n 1, 1) := by decide +kernel
theorem dc_W_law_229 : decode bc_W_law 229 = .ok (.aload_n 0, 1) := by decide +kernel
theorem dc_W_law_230 : decode bc_W_law 230 = .ok (.iload_n 3, 1) := by decide +kernel
theorem dc_W_law_231 : decode bc_W_law 231 = .ok (.iconst 1, 1) := by decide +kernel
theorem dc_W_law_232 : decode bc_W_law 232 = .ok (.iadd, 1) := by decide +kernel
theorem dc_W_law_233 : decode bc_W_law 233 = .ok (.iaload, 1) := by decide +kernel
theorem dc_W_law_234 : decode bc_W_law 234 = .ok (.aload_n 0, 1) := by decide +kernel
theorem dc_W_law_235 : decode bc_W_law 235 = .ok (.iload_n 3, 1) := by decide +kernel
theorem dc_W_law_236 : decode bc_W_law 236 = .ok (.iconst 2, 1) := by decide +kernel
theorem dc_W_law_237 : decode bc_W_law 237 = .ok (.iadd, 1) := by decide +kernel
theorem dc_W_law_238 : decode bc_W_law 238 = .ok (.iaload, 1) := by decide +kernel
theorem dc_W_law_239 : decode bc_W_law 239 = .ok (.aload_n 0, 1) := by decide +kernel
theorem dc_W_law_240 : decode bc_W_law 240 = .ok (.iload_n 3, 1) := by decide +kernel
theorem dc_W_law_241 : decode bc_W_law 241 = .ok (.iconst 3, 1) := by decide +kernel
theorem dc_W_law_242 : decode bc_W_law 242 = .ok (.iadd, 1) := by decide +kernel
theorem dc_W_law_243 : decode bc_W_law 243 = .ok (.iaload, 1) := by decide +kernel
theorem dc_W_law_244 : decode bc_W_law 244 = .ok (.i2l, 1) := by decide +kernel
theorem dc_W_law_245 : decode bc_W_law 245 = .ok (.bipush 32, 2) := by decide +kernel
theorem dc_W_law_247 : decode bc_W_law 247 = .ok (.lshl, 1) := by decide +kernel
theorem dc_W_law_248 : decode bc_W_law 248 = .ok (.aload_n 0, 1) := by decide +kernel
theorem dc_W_law_249 : decode bc_W_law 249 = .ok (.iload_n 3, 1) := by decide +kernel
theorem dc_W_law_250 : decode bc_W_law 250 = .ok (.iconst 4, 1) := by decide +kernel
theorem dc_W_law_251 : decode bc_W_law 251 = .ok (.iadd, 1) := by decide +kernel
theorem dc_W_law_252 : decode bc_W_law 252 = .ok (.iaload, 1) := by decide +kernel
theorem dc_W_law_253 : decode bc_W_law 253 = .ok (.i2l, 1) := by decide +kernel
theorem dc_W_law_254 : decode bc_W_law 254 = .ok (.ldc2_w 13, 3) := by decide +kernel
theorem dc_W_law_257 : decode bc_W_law 257 = .ok (.land, 1) := by decide +kernel
theorem dc_W_law_258 : decode bc_W_law 258 = .ok (.lor, 1) := by decide +kernel
theorem dc_W_law_259 : decode bc_W_law 259 = .ok (.invokevirtual 25, 3) := by decide +kernel
theorem dc_W_law_262 : decode bc_W_law 262 = .ok (.aload_n 2, 1) := by decide +kernel
theorem dc_W_law_263 : decode bc_W_law 263 = .ok (.aload_n 0, 1) := by decide +kernel
theorem dc_W_law_264 : decode bc_W_law 264 = .ok (.iload_n 3, 1) := by decide +kernel
theorem dc_W_law_265 : decode bc_W_law 265 = .ok (.iconst 1, 1) := by decide +kernel
theorem dc_W_law_266 : decode bc_W_law 266 = .ok (.iadd, 1) := by decide +kernel
theorem dc_W_law_267 : decode bc_W_law 267 = .ok (.iaload, 1) := by decide +kernel
theorem dc_W_law_268 : decode bc_W_law 268 = .ok (.aload_n 0, 1) := by decide +kernel
theorem dc_W_law_269 : decode bc_W_law 269 = .ok (.iload_n 3, 1) := by decide +kernel
theorem dc_W_law_270 : decode bc_W_law 270 = .ok (.iconst 2, 1) := by decide +kernel
theorem dc_W_law_271 : decode bc_W_law 271 = .ok (.iadd, 1) := by decide +kernel
theorem dc_W_law_272 : decode bc_W_law 272 = .ok (.iaload, 1) := by decide +kernel
theorem dc_W_law_273 : decode bc_W_law 273 = .ok (.aload_n 0, 1) := by decide +kernel
theorem dc_W_law_274 : decode bc_W_law 274 = .ok (.iload_n 3, 1) := by decide +kernel
theorem dc_W_law_275 : decode bc_W_law 275 = .ok (.iconst 3, 1) := by decide +kernel
theorem dc_W_law_276 : decode bc_W_law 276 = .ok (.iadd, 1) := by decide +kernel
theorem dc_W_law_277 : decode bc_W_law 277 = .ok (.iaload, 1) := by decide +kernel
theorem dc_W_law_278 : decode bc_W_law 278 = .ok (.i2l, 1) := by decide +kernel
theorem dc_W_law_279 : decode bc_W_law 279 = .ok (.bipush 32, 2) := by decide +kernel
theorem dc_W_law_281 : decode bc_W_law 281 = .ok (.lshl, 1) := by decide +kernel
theorem dc_W_law_282 : decode bc_W_law 282 = .ok (.aload_n 0, 1) := by decide +kernel
theorem dc_W_law_283 : decode bc_W_law 283 = .ok (.iload_n 3, 1) := by decide +kernel
theorem dc_W_law_284 : decode bc_W_law 284 = .ok (.iconst 4, 1) := by decide +kernel
theorem dc_W_law_285 : decode bc_W_law 285 = .ok (.iadd, 1) := by decide +kernel
theorem dc_W_law_286 : decode bc_W_law 286 = .ok (.iaload, 1) := by decide +kernel
theorem dc_W_law_287 : decode bc_W_law 287 = .ok (.i2l, 1) := by decide +kernel
theorem dc_W_law_288 : decode bc_W_law 288 = .ok (.ldc2_w 13, 3) := by decide +kernel
theorem dc_W_law_291 : decode bc_W_law 291 = .ok (.land, 1) := by decide +kernel
theorem dc_W_law_292 : decode bc_W_law 292 = .ok (.lor, 1) := by decide +kernel
theorem dc_W_law_293 : decode bc_W_law 293 = .ok (.invokevirtual 29, 3) := by decide +kernel
theorem dc_W_law_296 : decode bc_W_law 296 = .ok (.if_icmp .eq 1059, 3) := by decide +kernel
theorem dc_W_law_299 : decode bc_W_law 299 = .ok (.iconst 0, 1) := by decide +kernel
theorem dc_W_law_300 : decode bc_W_law 300 = .ok (.ireturn, 1) := by decide +kernel
theorem dc_W_law_301 : decode bc_W_law 301 = .ok (.aload_n 1, 1) := by decide +kernel
theorem dc_W_law_302 : decode bc_W_law 302 = .ok (.aload_n 0, 1) := by decide +kernel
theorem dc_W_law_303 : decode bc_W_law 303 = .ok (.iload_n 3, 1) := by decide +kernel
theorem dc_W_law_304 : decode bc_W_law 304 = .ok (.iconst 1, 1) := by decide +kernel
theorem dc_W_law_305 : decode bc_W_law 305 = .ok (.iadd, 1) := by decide +kernel
theorem dc_W_law_306 : decode bc_W_law 306 = .ok (.iaload, 1) := by decide +kernel
theorem dc_W_law_307 : decode bc_W_law 307 = .ok (.aload_n 0, 1) := by decide +kernel
theorem dc_W_law_308 : decode bc_W_law 308 = .ok (.iload_n 3, 1) := by decide +kernel
theorem dc_W_law_309 : decode bc_W_law 309 = .ok (.iconst 2, 1) := by decide +kernel
theorem dc_W_law_310 : decode bc_W_law 310 = .ok (.iadd, 1) := by decide +kernel
theorem dc_W_law_311 : decode bc_W_law 311 = .ok (.iaload, 1) := by decide +kernel
theorem dc_W_law_312 : decode bc_W_law 312 = .ok (.i2l, 1) := by decide +kernel
theorem dc_W_law_313 : decode bc_W_law 313 = .ok (.bipush 32, 2) := by decide +kernel
theorem dc_W_law_315 : decode bc_W_law 315 = .ok (.lshl, 1) := by decide +kernel
theorem dc_W_law_316 : decode bc_W_law 316 = .ok (.aload_n 0, 1) := by decide +kernel
theorem dc_W_law_317 : decode bc_W_law 317 = .ok (.iload_n 3, 1) := by decide +kernel
theorem dc_W_law_318 : decode bc_W_law 318 = .ok (.iconst 3, 1) := by decide +kernel
theorem dc_W_law_319 : decode bc_W_law 319 = .ok (.iadd, 1) := by decide +kernel
theorem dc_W_law_320 : decode bc_W_law 320 = .ok (.iaload, 1) := by decide +kernel
theorem dc_W_law_321 : decode bc_W_law 321 = .ok (.i2l, 1) := by decide +kernel
theorem dc_W_law_322 : decode bc_W_law 322 = .ok (.ldc2_w 13, 3) := by decide +kernel
theorem dc_W_law_325 : decode bc_W_law 325 = .ok (.land, 1) := by decide +kernel
theorem dc_W_law_326 : decode bc_W_law 326 = .ok (.lor, 1) := by decide +kernel
theorem dc_W_law_327 : decode bc_W_law 327 = .ok (.invokevirtual 30, 3) := by decide +kernel
theorem dc_W_law_330 : decode bc_W_law 330 = .ok (.aload_n 2, 1) := by decide +kernel
theorem dc_W_law_331 : decode bc_W_law 331 = .ok (.aload_n 0, 1) := by decide +kernel
theorem dc_W_law_332 : decode bc_W_law 332 = .ok (.iload_n 3, 1) := by decide +kernel
theorem dc_W_law_333 : decode bc_W_law 333 = .ok (.iconst 1, 1) := by decide +kernel
theorem dc_W_law_334 : decode bc_W_law 334 = .ok (.iadd, 1) := by decide +kernel
theorem dc_W_law_335 : decode bc_W_law 335 = .ok (.iaload, 1) := by decide +kernel
theorem dc_W_law_336 : decode bc_W_law 336 = .ok (.aload_n 0, 1) := by decide +kernel
theorem dc_W_law_337 : decode bc_W_law 337 = .ok (.iload_n 3, 1) := by decide +kernel
theorem dc_W_law_338 : decode bc_W_law 338 = .ok (.iconst 2, 1) := by decide +kernel
theorem dc_W_law_339 : decode bc_W_law 339 = .ok (.iadd, 1) := by decide +kernel
theorem dc_W_law_340 : decode bc_W_law 340 = .ok (.iaload, 1) := by decide +kernel
theorem dc_W_law_341 : decode bc_W_law 341 = .ok (.i2l, 1) := by decide +kernel
theorem dc_W_law_342 : decode bc_W_law 342 = .ok (.bipush 32, 2) := by decide +kernel
theorem dc_W_law_344 : decode bc_W_law 344 = .ok (.lshl, 1) := by decide +kernel
theorem dc_W_law_345 : decode bc_W_law 345 = .ok (.aload_n 0, 1) := by decide +kernel
theorem dc_W_law_346 : decode bc_W_law 346 = .ok (.iload_n 3, 1) := by decide +kernel
theorem dc_W_law_347 : decode bc_W_law 347 = .ok (.iconst 3, 1) := by decide +kernel
theorem dc_W_law_348 : decode bc_W_law 348 = .ok (.iadd, 1) := by decide +kernel
theorem dc_W_law_349 : decode bc_W_law 349 = .ok (.iaload, 1) := by decide +kernel
theorem dc_W_law_350 : decode bc_W_law 350 = .ok (.i2l, 1) := by decide +kernel
theorem dc_W_law_351 : decode bc_W_law 351 = .ok (.ldc2_w 13, 3) := by decide +kernel
theorem dc_W_law_354 : decode bc_W_law 354 = .ok (.land, 1) := by decide +kernel
theorem dc_W_law_355 : decode bc_W_law 355 = .ok (.lor, 1) := by decide +kernel
theorem dc_W_law_356 : decode bc_W_law 356 = .ok (.invokevirtual 34, 3) := by decide +kernel
theorem dc_W_law_359 : decode bc_W_law 359 = .ok (.if_icmp .eq 996, 3) := by decide +kernel
theorem dc_W_law_362 : decode bc_W_law 362 = .ok (.iconst 0, 1) := by decide +kernel
theorem dc_W_law_363 : decode bc_W_law 363 = .ok (.ireturn, 1) := by decide +kernel
theorem dc_W_law_364 : decode bc_W_law 364 = .ok (.aload_n 1, 1) := by decide +kernel
theorem dc_W_law_365 : decode bc_W_law 365 = .ok (.aload_n 0, 1) := by decide +kernel
theorem dc_W_law_366 : decode bc_W_law 366 = .ok (.iload_n 3, 1) := by decide +kernel
theorem dc_W_law_367 : decode bc_W_law 367 = .ok (.iconst 1, 1) := by decide +kernel
theorem dc_W_law_368 : decode bc_W_law 368 = .ok (.iadd, 1) := by decide +kernel
theorem dc_W_law_369 : decode bc_W_law 369 = .ok (.iaload, 1) := by decide +kernel
theorem dc_W_law_370 : decode bc_W_law 370 = .ok (.aload_n 0, 1) := by decide +kernel
theorem dc_W_law_371 : decode bc_W_law 371 = .ok (.iload_n 3, 1) := by decide +kernel
theorem dc_W_law_372 : decode bc_W_law 372 = .ok (.iconst 2, 1) := by decide +kernel
theorem dc_W_law_373 : decode bc_W_law 373 = .ok (.iadd, 1) := by decide +kernel
theorem dc_W_law_374 : decode bc_W_law 374 = .ok (.iaload, 1) := by decide +kernel
theorem dc_W_law_375 : decode bc_W_law 375 = .ok (.invokevirtual 35, 3) := by decide +kernel
theorem dc_W_law_378 : decode bc_W_law 378 = .ok (.aload_n 2, 1) := by decide +kernel
theorem dc_W_law_379 : decode bc_W_law 379 = .ok (.aload_n 0, 1) := by decide +kernel
theorem dc_W_law_380 : decode bc_W_law 380 = .ok (.iload_n 3, 1) := by decide +kernel
theorem dc_W_law_381 : decode bc_W_law 381 = .ok (.iconst 1, 1) := by decide +kernel
theorem dc_W_law_382 : decode bc_W_law 382 = .ok (.iadd, 1) := by decide +kernel
theorem dc_W_law_383 : decode bc_W_law 383 = .ok (.iaload, 1) := by decide +kernel
theorem dc_W_law_384 : decode bc_W_law 384 = .ok (.aload_n 0, 1) := by decide +kernel
theorem dc_W_law_385 : decode bc_W_law 385 = .ok (.iload_n 3, 1) := by decide +kernel
theorem dc_W_law_386 : decode bc_W_law 386 = .ok (.iconst 2, 1) := by decide +kernel
theorem dc_W_law_387 : decode bc_W_law 387 = .ok (.iadd, 1) := by decide +kernel
theorem dc_W_law_388 : decode bc_W_law 388 = .ok (.iaload, 1) := by decide +kernel
theorem dc_W_law_389 : decode bc_W_law 389 = .ok (.invokevirtual 39, 3) := by decide +kernel
theorem dc_W_law_392 : decode bc_W_law 392 = .ok (.if_icmp .eq 963, 3) := by decide +kernel
theorem dc_W_law_395 : decode bc_W_law 395 = .ok (.iconst 0, 1) := by decide +kernel
theorem dc_W_law_396 : decode bc_W_law 396 = .ok (.ireturn, 1) := by decide +kernel
theorem dc_W_law_397 : decode bc_W_law 397 = .ok (.aload_n 1, 1) := by decide +kernel
theorem dc_W_law_398 : decode bc_W_law 398 = .ok (.aload_n 0, 1) := by decide +kernel
theorem dc_W_law_399 : decode bc_W_law 399 = .ok (.iload_n 3, 1) := by decide +kernel
theorem dc_W_law_400 : decode bc_W_law 400 = .ok (.iconst 1, 1) := by decide +kernel
theorem dc_W_law_401 : decode bc_W_law 401 = .ok (.iadd, 1) := by decide +kernel
theorem dc_W_law_402 : decode bc_W_law 402 = .ok (.iaload, 1) := by decide +kernel
theorem dc_W_law_403 : decode bc_W_law 403 = .ok (.invokevirtual 40, 3) := by decide +kernel
theorem dc_W_law_406 : decode bc_W_law 406 = .ok (.aload_n 2, 1) := by decide +kernel
theorem dc_W_law_407 : decode bc_W_law 407 = .ok (.aload_n 0, 1) := by decide +kernel
theorem dc_W_law_408 : decode bc_W_law 408 = .ok (.iload_n 3, 1) := by decide +kernel
theorem dc_W_law_409 : decode bc_W_law 409 = .ok (.iconst 1, 1) := by decide +kernel
theorem dc_W_law_410 : decode bc_W_law 410 = .ok (.iadd, 1) := by decide +kernel
theorem dc_W_law_411 : decode bc_W_law 411 = .ok (.iaload, 1) := by decide +kernel
theorem dc_W_law_412 : decode bc_W_law 412 = .ok (.invokevirtual 43, 3) := by decide +kernel
theorem dc_W_law_415 : decode bc_W_law 415 = .ok (.if_icmp .eq 940, 3) := by decide +kernel
theorem dc_W_law_418 : decode bc_W_law 418 = .ok (.iconst 0, 1) := by decide +kernel
theorem dc_W_law_419 : decode bc_W_law 419 = .ok (.ireturn, 1) := by decide +kernel
theorem dc_W_law_420 : decode bc_W_law 420 = .ok (.aload_n 1, 1) := by decide +kernel
theorem dc_W_law_421 : decode bc_W_law 421 = .ok (.aload_n 0, 1) := by decide +kernel
theorem dc_W_law_422 : decode bc_W_law 422 = .ok (.iload_n 3, 1) := by decide +kernel
theorem dc_W_law_423 : decode bc_W_law 423 = .ok (.iconst 1, 1) := by decide +kernel
theorem dc_W_law_424 : decode bc_W_law 424 = .ok (.iadd, 1) := by decide +kernel
theorem dc_W_law_425 : decode bc_W_law 425 = .ok (.iaload, 1) := by decide +kernel
theorem dc_W_law_426 : decode bc_W_law 426 = .ok (.aload_n 0, 1) := by decide +kernel
theorem dc_W_law_427 : decode bc_W_law 427 = .ok (.iload_n 3, 1) := by decide +kernel
theorem dc_W_law_428 : decode bc_W_law 428 = .ok (.iconst 2, 1) := by decide +kernel
theorem dc_W_law_429 : decode bc_W_law 429 = .ok (.iadd, 1) := by decide +kernel
theorem dc_W_law_430 : decode bc_W_law 430 = .ok (.iaload, 1) := by decide +kernel
theorem dc_W_law_431 : decode bc_W_law 431 = .ok (.invokevirtual 44, 3) := by decide +kernel
theorem dc_W_law_434 : decode bc_W_law 434 = .ok (.aload_n 2, 1) := by decide +kernel
theorem dc_W_law_435 : decode bc_W_law 435 = .ok (.aload_n 0, 1) := by decide +kernel
theorem dc_W_law_436 : decode bc_W_law 436 = .ok (.iload_n 3, 1) := by decide +kernel
theorem dc_W_law_437 : decode bc_W_law 437 = .ok (.iconst 1, 1) := by decide +kernel
theorem dc_W_law_438 : decode bc_W_law 438 = .ok (.iadd, 1) := by decide +kernel
theorem dc_W_law_439 : decode bc_W_law 439 = .ok (.iaload, 1) := by decide +kernel
theorem dc_W_law_440 : decode bc_W_law 440 = .ok (.aload_n 0, 1) := by decide +kernel
theorem dc_W_law_441 : decode bc_W_law 441 = .ok (.iload_n 3, 1) := by decide +kernel
theorem dc_W_law_442 : decode bc_W_law 442 = .ok (.iconst 2, 1) := by decide +kernel
theorem dc_W_law_443 : decode bc_W_law 443 = .ok (.iadd, 1) := by decide +kernel
theorem dc_W_law_444 : decode bc_W_law 444 = .ok (.iaload, 1) := by decide +kernel
theorem dc_W_law_445 : decode bc_W_law 445 = .ok (.invokevirtual 48, 3) := by decide +kernel
end
section
theorem dc_W_law_448 : decode bc_W_law 448 = .ok (.lcmp, 1) := by decide +kernel
theorem dc_W_law_449 : decode bc_W_law 449 = .ok (.ifCond .eq 906, 3) := by decide +kernel
theorem dc_W_law_452 : decode bc_W_law 452 = .ok (.iconst 0, 1) := by decide +kernel
theorem dc_W_law_453 : decode bc_W_law 453 = .ok (.ireturn, 1) := by decide +kernel
theorem dc_W_law_454 : decode bc_W_law 454 = .ok (.aload_n 1, 1) := by decide +kernel
theorem dc_W_law_455 : decode bc_W_law 455 = .ok (.aload_n 0, 1) := by decide +kernel
theorem dc_W_law_456 : decode bc_W_law 456 = .ok (.iload_n 3, 1) := by decide +kernel
theorem dc_W_law_457 : decode bc_W_law 457 = .ok (.iconst 1, 1) := by decide +kernel
theorem dc_W_law_458 : decode bc_W_law 458 = .ok (.iadd, 1) := by decide +kernel
theorem dc_W_law_459 : decode bc_W_law 459 = .ok (.iaload, 1) := by decide +kernel
theorem dc_W_law_460 : decode bc_W_law 460 = .ok (.aload_n 0, 1) := by decide +kernel
theorem dc_W_law_461 : decode bc_W_law 461 = .ok (.iload_n 3, 1) := by decide +kernel
theorem dc_W_law_462 : decode bc_W_law 462 = .ok (.iconst 2, 1) := by decide +kernel
theorem dc_W_law_463 : decode bc_W_law 463 = .ok (.iadd, 1) := by decide +kernel
theorem dc_W_law_464 : decode bc_W_law 464 = .ok (.iaload, 1) := by decide +kernel
theorem dc_W_law_465 : decode bc_W_law 465 = .ok (.aload_n 0, 1) := by decide +kernel
theorem dc_W_law_466 : decode bc_W_law 466 = .ok (.iload_n 3, 1) := by decide +kernel
theorem dc_W_law_467 : decode bc_W_law 467 = .ok (.iconst 3, 1) := by decide +kernel
theorem dc_W_law_468 : decode bc_W_law 468 = .ok (.iadd, 1) := by decide +kernel
theorem dc_W_law_469 : decode bc_W_law 469 = .ok (.iaload, 1) := by decide +kernel
theorem dc_W_law_470 : decode bc_W_law 470 = .ok (.i2l, 1) := by decide +kernel
theorem dc_W_law_471 : decode bc_W_law 471 = .ok (.bipush 32, 2) := by decide +kernel
theorem dc_W_law_473 : decode bc_W_law 473 = .ok (.lshl, 1) := by decide +kernel
theorem dc_W_law_474 : decode bc_W_law 474 = .ok (.aload_n 0, 1) := by decide +kernel
theorem dc_W_law_475 : decode bc_W_law 475 = .ok (.iload_n 3, 1) := by decide +kernel
theorem dc_W_law_476 : decode bc_W_law 476 = .ok (.iconst 4, 1) := by decide +kernel
theorem dc_W_law_477 : decode bc_W_law 477 = .ok (.iadd, 1) := by decide +kernel
theorem dc_W_law_478 : decode bc_W_law 478 = .ok (.iaload, 1) := by decide +kernel
theorem dc_W_law_479 : decode bc_W_law 479 = .ok (.i2l, 1) := by decide +kernel
theorem dc_W_law_480 : decode bc_W_law 480 = .ok (.ldc2_w 13, 3) := by decide +kernel
theorem dc_W_law_483 : decode bc_W_law 483 = .ok (.land, 1) := by decide +kernel
theorem dc_W_law_484 : decode bc_W_law 484 = .ok (.lor, 1) := by decide +kernel
theorem dc_W_law_485 : decode bc_W_law 485 = .ok (.aload_n 0, 1) := by decide +kernel
theorem dc_W_law_486 : decode bc_W_law 486 = .ok (.iload_n 3, 1) := by decide +kernel
theorem dc_W_law_487 : decode bc_W_law 487 = .ok (.iconst 5, 1) := by decide +kernel
theorem dc_W_law_488 : decode bc_W_law 488 = .ok (.iadd, 1) := by decide +kernel
theorem dc_W_law_489 : decode bc_W_law 489 = .ok (.iaload, 1) := by decide +kernel
theorem dc_W_law_490 : decode bc_W_law 490 = .ok (.aload_n 0, 1) := by decide +kernel
theorem dc_W_law_491 : decode bc_W_law 491 = .ok (.iload_n 3, 1) := by decide +kernel
theorem dc_W_law_492 : decode bc_W_law 492 = .ok (.bipush 6, 2) := by decide +kernel
theorem dc_W_law_494 : decode bc_W_law 494 = .ok (.iadd, 1) := by decide +kernel
theorem dc_W_law_495 : decode bc_W_law 495 = .ok (.iaload, 1) := by decide +kernel
theorem dc_W_law_496 : decode bc_W_law 496 = .ok (.invokevirtual 49, 3) := by decide +kernel
theorem dc_W_law_499 : decode bc_W_law 499 = .ok (.aload_n 2, 1) := by decide +kernel
theorem dc_W_law_500 : decode bc_W_law 500 = .ok (.aload_n 0, 1) := by decide +kernel
theorem dc_W_law_501 : decode bc_W_law 501 = .ok (.iload_n 3, 1) := by decide +kernel
theorem dc_W_law_502 : decode bc_W_law 502 = .ok (.iconst 1, 1) := by decide +kernel
theorem dc_W_law_503 : decode bc_W_law 503 = .ok (.iadd, 1) := by decide +kernel
theorem dc_W_law_504 : decode bc_W_law 504 = .ok (.iaload, 1) := by decide +kernel
theorem dc_W_law_505 : decode bc_W_law 505 = .ok (.aload_n 0, 1) := by decide +kernel
theorem dc_W_law_506 : decode bc_W_law 506 = .ok (.iload_n 3, 1) := by decide +kernel
theorem dc_W_law_507 : decode bc_W_law 507 = .ok (.iconst 2, 1) := by decide +kernel
theorem dc_W_law_508 : decode bc_W_law 508 = .ok (.iadd, 1) := by decide +kernel
theorem dc_W_law_509 : decode bc_W_law 509 = .ok (.iaload, 1) := by decide +kernel
theorem dc_W_law_510 : decode bc_W_law 510 = .ok (.aload_n 0, 1) := by decide +kernel
theorem dc_W_law_511 : decode bc_W_law 511 = .ok (.iload_n 3, 1) := by decide +kernel
theorem dc_W_law_512 : decode bc_W_law 512 = .ok (.iconst 3, 1) := by decide +kernel
theorem dc_W_law_513 : decode bc_W_law 513 = .ok (.iadd, 1) := by decide +kernel
theorem dc_W_law_514 : decode bc_W_law 514 = .ok (.iaload, 1) := by decide +kernel
theorem dc_W_law_515 : decode bc_W_law 515 = .ok (.i2l, 1) := by decide +kernel
theorem dc_W_law_516 : decode bc_W_law 516 = .ok (.bipush 32, 2) := by decide +kernel
theorem dc_W_law_518 : decode bc_W_law 518 = .ok (.lshl, 1) := by decide +kernel
theorem dc_W_law_519 : decode bc_W_law 519 = .ok (.aload_n 0, 1) := by decide +kernel
theorem dc_W_law_520 : decode bc_W_law 520 = .ok (.iload_n 3, 1) := by decide +kernel
theorem dc_W_law_521 : decode bc_W_law 521 = .ok (.iconst 4, 1) := by decide +kernel
theorem dc_W_law_522 : decode bc_W_law 522 = .ok (.iadd, 1) := by decide +kernel
theorem dc_W_law_523 : decode bc_W_law 523 = .ok (.iaload, 1) := by decide +kernel
theorem dc_W_law_524 : decode bc_W_law 524 = .ok (.i2l, 1) := by decide +kernel
theorem dc_W_law_525 : decode bc_W_law 525 = .ok (.ldc2_w 13, 3) := by decide +kernel
theorem dc_W_law_528 : decode bc_W_law 528 = .ok (.land, 1) := by decide +kernel
theorem dc_W_law_529 : decode bc_W_law 529 = .ok (.lor, 1) := by decide +kernel
theorem dc_W_law_530 : decode bc_W_law 530 = .ok (.aload_n 0, 1) := by decide +kernel
theorem dc_W_law_531 : decode bc_W_law 531 = .ok (.iload_n 3, 1) := by decide +kernel
theorem dc_W_law_532 : decode bc_W_law 532 = .ok (.iconst 5, 1) := by decide +kernel
theorem dc_W_law_533 : decode bc_W_law 533 = .ok (.iadd, 1) := by decide +kernel
theorem dc_W_law_534 : decode bc_W_law 534 = .ok (.iaload, 1) := by decide +kernel
theorem dc_W_law_535 : decode bc_W_law 535 = .ok (.aload_n 0, 1) := by decide +kernel
theorem dc_W_law_536 : decode bc_W_law 536 = .ok (.iload_n 3, 1) := by decide +kernel
theorem dc_W_law_537 : decode bc_W_law 537 = .ok (.bipush 6, 2) := by decide +kernel
theorem dc_W_law_539 : decode bc_W_law 539 = .ok (.iadd, 1) := by decide +kernel
theorem dc_W_law_540 : decode bc_W_law 540 = .ok (.iaload, 1) := by decide +kernel
theorem dc_W_law_541 : decode bc_W_law 541 = .ok (.invokevirtual 53, 3) := by decide +kernel
theorem dc_W_law_544 : decode bc_W_law 544 = .ok (.if_icmp .eq 811, 3) := by decide +kernel
theorem dc_W_law_547 : decode bc_W_law 547 = .ok (.iconst 0, 1) := by decide +kernel
theorem dc_W_law_548 : decode bc_W_law 548 = .ok (.ireturn, 1) := by decide +kernel
theorem dc_W_law_549 : decode bc_W_law 549 = .ok (.aload_n 1, 1) := by decide +kernel
theorem dc_W_law_550 : decode bc_W_law 550 = .ok (.aload_n 0, 1) := by decide +kernel
theorem dc_W_law_551 : decode bc_W_law 551 = .ok (.iload_n 3, 1) := by decide +kernel
theorem dc_W_law_552 : decode bc_W_law 552 = .ok (.iconst 1, 1) := by decide +kernel
theorem dc_W_law_553 : decode bc_W_law 553 = .ok (.iadd, 1) := by decide +kernel
theorem dc_W_law_554 : decode bc_W_law 554 = .ok (.iaload, 1) := by decide +kernel
theorem dc_W_law_555 : decode bc_W_law 555 = .ok (.aload_n 0, 1) := by decide +kernel
theorem dc_W_law_556 : decode bc_W_law 556 = .ok (.iload_n 3, 1) := by decide +kernel
theorem dc_W_law_557 : decode bc_W_law 557 = .ok (.iconst 2, 1) := by decide +kernel
theorem dc_W_law_558 : decode bc_W_law 558 = .ok (.iadd, 1) := by decide +kernel
theorem dc_W_law_559 : decode bc_W_law 559 = .ok (.iaload, 1) := by decide +kernel
theorem dc_W_law_560 : decode bc_W_law 560 = .ok (.aload_n 0, 1) := by decide +kernel
theorem dc_W_law_561 : decode bc_W_law 561 = .ok (.iload_n 3, 1) := by decide +kernel
theorem dc_W_law_562 : decode bc_W_law 562 = .ok (.iconst 3, 1) := by decide +kernel
theorem dc_W_law_563 : decode bc_W_law 563 = .ok (.iadd, 1) := by decide +kernel
theorem dc_W_law_564 : decode bc_W_law 564 = .ok (.iaload, 1) := by decide +kernel
theorem dc_W_law_565 : decode bc_W_law 565 = .ok (.invokevirtual 54, 3) := by decide +kernel
theorem dc_W_law_568 : decode bc_W_law 568 = .ok (.aload_n 2, 1) := by decide +kernel
theorem dc_W_law_569 : decode bc_W_law 569 = .ok (.aload_n 0, 1) := by decide +kernel
theorem dc_W_law_570 : decode bc_W_law 570 = .ok (.iload_n 3, 1) := by decide +kernel
theorem dc_W_law_571 : decode bc_W_law 571 = .ok (.iconst 1, 1) := by decide +kernel
theorem dc_W_law_572 : decode bc_W_law 572 = .ok (.iadd, 1) := by decide +kernel
theorem dc_W_law_573 : decode bc_W_law 573 = .ok (.iaload, 1) := by decide +kernel
theorem dc_W_law_574 : decode bc_W_law 574 = .ok (.aload_n 0, 1) := by decide +kernel
theorem dc_W_law_575 : decode bc_W_law 575 = .ok (.iload_n 3, 1) := by decide +kernel
theorem dc_W_law_576 : decode bc_W_law 576 = .ok (.iconst 2, 1) := by decide +kernel
theorem dc_W_law_577 : decode bc_W_law 577 = .ok (.iadd, 1) := by decide +kernel
theorem dc_W_law_578 : decode bc_W_law 578 = .ok (.iaload, 1) := by decide +kernel
theorem dc_W_law_579 : decode bc_W_law 579 = .ok (.aload_n 0, 1) := by decide +kernel
theorem dc_W_law_580 : decode bc_W_law 580 = .ok (.iload_n 3, 1) := by decide +kernel
theorem dc_W_law_581 : decode bc_W_law 581 = .ok (.iconst 3, 1) := by decide +kernel
theorem dc_W_law_582 : decode bc_W_law 582 = .ok (.iadd, 1) := by decide +kernel
theorem dc_W_law_583 : decode bc_W_law 583 = .ok (.iaload, 1) := by decide +kernel
theorem dc_W_law_584 : decode bc_W_law 584 = .ok (.invokevirtual 58, 3) := by decide +kernel
theorem dc_W_law_587 : decode bc_W_law 587 = .ok (.lcmp, 1) := by decide +kernel
theorem dc_W_law_588 : decode bc_W_law 588 = .ok (.ifCond .eq 767, 3) := by decide +kernel
theorem dc_W_law_591 : decode bc_W_law 591 = .ok (.iconst 0, 1) := by decide +kernel
theorem dc_W_law_592 : decode bc_W_law 592 = .ok (.ireturn, 1) := by decide +kernel
theorem dc_W_law_593 : decode bc_W_law 593 = .ok (.aload_n 1, 1) := by decide +kernel
theorem dc_W_law_594 : decode bc_W_law 594 = .ok (.aload_n 0, 1) := by decide +kernel
theorem dc_W_law_595 : decode bc_W_law 595 = .ok (.iload_n 3, 1) := by decide +kernel
theorem dc_W_law_596 : decode bc_W_law 596 = .ok (.iconst 1, 1) := by decide +kernel
theorem dc_W_law_597 : decode bc_W_law 597 = .ok (.iadd, 1) := by decide +kernel
theorem dc_W_law_598 : decode bc_W_law 598 = .ok (.iaload, 1) := by decide +kernel
theorem dc_W_law_599 : decode bc_W_law 599 = .ok (.aload_n 0, 1) := by decide +kernel
theorem dc_W_law_600 : decode bc_W_law 600 = .ok (.iload_n 3, 1) := by decide +kernel
theorem dc_W_law_601 : decode bc_W_law 601 = .ok (.iconst 2, 1) := by decide +kernel
theorem dc_W_law_602 : decode bc_W_law 602 = .ok (.iadd, 1) := by decide +kernel
theorem dc_W_law_603 : decode bc_W_law 603 = .ok (.iaload, 1) := by decide +kernel
theorem dc_W_law_604 : decode bc_W_law 604 = .ok (.aload_n 0, 1) := by decide +kernel
theorem dc_W_law_605 : decode bc_W_law 605 = .ok (.iload_n 3, 1) := by decide +kernel
theorem dc_W_law_606 : decode bc_W_law 606 = .ok (.iconst 3, 1) := by decide +kernel
theorem dc_W_law_607 : decode bc_W_law 607 = .ok (.iadd, 1) := by decide +kernel
theorem dc_W_law_608 : decode bc_W_law 608 = .ok (.iaload, 1) := by decide +kernel
theorem dc_W_law_609 : decode bc_W_law 609 = .ok (.aload_n 0, 1) := by decide +kernel
theorem dc_W_law_610 : decode bc_W_law 610 = .ok (.iload_n 3, 1) := by decide +kernel
theorem dc_W_law_611 : decode bc_W_law 611 = .ok (.iconst 4, 1) := by decide +kernel
theorem dc_W_law_612 : decode bc_W_law 612 = .ok (.iadd, 1) := by decide +kernel
theorem dc_W_law_613 : decode bc_W_law 613 = .ok (.iaload, 1) := by decide +kernel
theorem dc_W_law_614 : decode bc_W_law 614 = .ok (.i2l, 1) := by decide +kernel
theorem dc_W_law_615 : decode bc_W_law 615 = .ok (.bipush 32, 2) := by decide +kernel
theorem dc_W_law_617 : decode bc_W_law 617 = .ok (.lshl, 1) := by decide +kernel
theorem dc_W_law_618 : decode bc_W_law 618 = .ok (.aload_n 0, 1) := by decide +kernel
theorem dc_W_law_619 : decode bc_W_law 619 = .ok (.iload_n 3, 1) := by decide +kernel
theorem dc_W_law_620 : decode bc_W_law 620 = .ok (.iconst 5, 1) := by decide +kernel
theorem dc_W_law_621 : decode bc_W_law 621 = .ok (.iadd, 1) := by decide +kernel
theorem dc_W_law_622 : decode bc_W_law 622 = .ok (.iaload, 1) := by decide +kernel
theorem dc_W_law_623 : decode bc_W_law 623 = .ok (.i2l, 1) := by decide +kernel
theorem dc_W_law_624 : decode bc_W_law 624 = .ok (.ldc2_w 13, 3) := by decide +kernel
theorem dc_W_law_627 : decode bc_W_law 627 = .ok (.land, 1) := by decide +kernel
theorem dc_W_law_628 : decode bc_W_law 628 = .ok (.lor, 1) := by decide +kernel
theorem dc_W_law_629 : decode bc_W_law 629 = .ok (.invokevirtual 59, 3) := by decide +kernel
theorem dc_W_law_632 : decode bc_W_law 632 = .ok (.aload_n 2, 1) := by decide +kernel
theorem dc_W_law_633 : decode bc_W_law 633 = .ok (.aload_n 0, 1) := by decide +kernel
theorem dc_W_law_634 : decode bc_W_law 634 = .ok (.iload_n 3, 1) := by decide +kernel
theorem dc_W_law_635 : decode bc_W_law 635 = .ok (.iconst 1, 1) := by decide +kernel
theorem dc_W_law_636 : decode bc_W_law 636 = .ok (.iadd, 1) := by decide +kernel
theorem dc_W_law_637 : decode bc_W_law 637 = .ok (.iaload, 1) := by decide +kernel
theorem dc_W_law_638 : decode bc_W_law 638 = .ok (.aload_n 0, 1) := by decide +kernel
theorem dc_W_law_639 : decode bc_W_law 639 = .ok (.iload_n 3, 1) := by decide +kernel
theorem dc_W_law_640 : decode bc_W_law 640 = .ok (.iconst 2, 1) := by decide +kernel
theorem dc_W_law_641 : decode bc_W_law 641 = .ok (.iadd, 1) := by decide +kernel
theorem dc_W_law_642 : decode bc_W_law 642 = .ok (.iaload, 1) := by decide +kernel
theorem dc_W_law_643 : decode bc_W_law 643 = .ok (.aload_n 0, 1) := by decide +kernel
theorem dc_W_law_644 : decode bc_W_law 644 = .ok (.iload_n 3, 1) := by decide +kernel
theorem dc_W_law_645 : decode bc_W_law 645 = .ok (.iconst 3, 1) := by decide +kernel
theorem dc_W_law_646 : decode bc_W_law 646 = .ok (.iadd, 1) := by decide +kernel
theorem dc_W_law_647 : decode bc_W_law 647 = .ok (.iaload, 1) := by decide +kernel
theorem dc_W_law_648 : decode bc_W_law 648 = .ok (.aload_n 0, 1) := by decide +kernel
theorem dc_W_law_649 : decode bc_W_law 649 = .ok (.iload_n 3, 1) := by decide +kernel
theorem dc_W_law_650 : decode bc_W_law 650 = .ok (.iconst 4, 1) := by decide +kernel
theorem dc_W_law_651 : decode bc_W_law 651 = .ok (.iadd, 1) := by decide +kernel
theorem dc_W_law_652 : decode bc_W_law 652 = .ok (.iaload, 1) := by decide +kernel
theorem dc_W_law_653 : decode bc_W_law 653 = .ok (.i2l, 1) := by decide +kernel
theorem dc_W_law_654 : decode bc_W_law 654 = .ok (.bipush 32, 2) := by decide +kernel
theorem dc_W_law_656 : decode bc_W_law 656 = .ok (.lshl, 1) := by decide +kernel
theorem dc_W_law_657 : decode bc_W_law 657 = .ok (.aload_n 0, 1) := by decide +kernel
theorem dc_W_law_658 : decode bc_W_law 658 = .ok (.iload_n 3, 1) := by decide +kernel
theorem dc_W_law_659 : decode bc_W_law 659 = .ok (.iconst 5, 1) := by decide +kernel
theorem dc_W_law_660 : decode bc_W_law 660 = .ok (.iadd, 1) := by decide +kernel
theorem dc_W_law_661 : decode bc_W_law 661 = .ok (.iaload, 1) := by decide +kernel
theorem dc_W_law_662 : decode bc_W_law 662 = .ok (.i2l, 1) := by decide +kernel
theorem dc_W_law_663 : decode bc_W_law 663 = .ok (.ldc2_w 13, 3) := by decide +kernel
theorem dc_W_law_666 : decode bc_W_law 666 = .ok (.land, 1) := by decide +kernel
theorem dc_W_law_667 : decode bc_W_law 667 = .ok (.lor, 1) := by decide +kernel
theorem dc_W_law_668 : decode bc_W_law 668 = .ok (.invokevirtual 63, 3) := by decide +kernel
theorem dc_W_law_671 : decode bc_W_law 671 = .ok (.if_icmp .eq 684, 3) := by decide +kernel
theorem dc_W_law_674 : decode bc_W_law 674 = .ok (.iconst 0, 1) := by decide +kernel
theorem dc_W_law_675 : decode bc_W_law 675 = .ok (.ireturn, 1) := by decide +kernel
theorem dc_W_law_676 : decode bc_W_law 676 = .ok (.aload_n 1, 1) := by decide +kernel
theorem dc_W_law_677 : decode bc_W_law 677 = .ok (.aload_n 0, 1) := by decide +kernel
theorem dc_W_law_678 : decode bc_W_law 678 = .ok (.iload_n 3, 1) := by decide +kernel
theorem dc_W_law_679 : decode bc_W_law 679 = .ok (.iconst 1, 1) := by decide +kernel
theorem dc_W_law_680 : decode bc_W_law 680 = .ok (.iadd, 1) := by decide +kernel
theorem dc_W_law_681 : decode bc_W_law 681 = .ok (.iaload, 1) := by decide +kernel
theorem dc_W_law_682 : decode bc_W_law 682 = .ok (.aload_n 0, 1) := by decide +kernel
theorem dc_W_law_683 : decode bc_W_law 683 = .ok (.iload_n 3, 1) := by decide +kernel
theorem dc_W_law_684 : decode bc_W_law 684 = .ok (.iconst 2, 1) := by decide +kernel
theorem dc_W_law_685 : decode bc_W_law 685 = .ok (.iadd, 1) := by decide +kernel
theorem dc_W_law_686 : decode bc_W_law 686 = .ok (.iaload, 1) := by decide +kernel
theorem dc_W_law_687 : decode bc_W_law 687 = .ok (.aload_n 0, 1) := by decide +kernel
theorem dc_W_law_688 : decode bc_W_law 688 = .ok (.iload_n 3, 1) := by decide +kernel
theorem dc_W_law_689 : decode bc_W_law 689 = .ok (.iconst 3, 1) := by decide +kernel
theorem dc_W_law_690 : decode bc_W_law 690 = .ok (.iadd, 1) := by decide +kernel
theorem dc_W_law_691 : decode bc_W_law 691 = .ok (.iaload, 1) := by decide +kernel
theorem dc_W_law_692 : decode bc_W_law 692 = .ok (.aload_n 0, 1) := by decide +kernel
theorem dc_W_law_693 : decode bc_W_law 693 = .ok (.iload_n 3, 1) := by decide +kernel
theorem dc_W_law_694 : decode bc_W_law 694 = .ok (.iconst 4, 1) := by decide +kernel
theorem dc_W_law_695 : decode bc_W_law 695 = .ok (.iadd, 1) := by decide +kernel
theorem dc_W_law_696 : decode bc_W_law 696 = .ok (.iaload, 1) := by decide +kernel
theorem dc_W_law_697 : decode bc_W_law 697 = .ok (.aload_n 0, 1) := by decide +kernel
theorem dc_W_law_698 : decode bc_W_law 698 = .ok (.iload_n 3, 1) := by decide +kernel
theorem dc_W_law_699 : decode bc_W_law 699 = .ok (.iconst 5, 1) := by decide +kernel
theorem dc_W_law_700 : decode bc_W_law 700 = .ok (.iadd, 1) := by decide +kernel
theorem dc_W_law_701 : decode bc_W_law 701 = .ok (.iaload, 1) := by decide +kernel
theorem dc_W_law_702 : decode bc_W_law 702 = .ok (.aload_n 0, 1) := by decide +kernel
theorem dc_W_law_703 : decode bc_W_law 703 = .ok (.iload_n 3, 1) := by decide +kernel
theorem dc_W_law_704 : decode bc_W_law 704 = .ok (.bipush 6, 2) := by decide +kernel
theorem dc_W_law_706 : decode bc_W_law 706 = .ok (.iadd, 1) := by decide +kernel
theorem dc_W_law_707 : decode bc_W_law 707 = .ok (.iaload, 1) := by decide +kernel
theorem dc_W_law_708 : decode bc_W_law 708 = .ok (.i2l, 1) := by decide +kernel
theorem dc_W_law_709 : decode bc_W_law 709 = .ok (.bipush 32, 2) := by decide +kernel
theorem dc_W_law_711 : decode bc_W_law 711 = .ok (.lshl, 1) := by decide +kernel
theorem dc_W_law_712 : decode bc_W_law 712 = .ok (.aload_n 0, 1) := by decide +kernel
theorem dc_W_law_713 : decode bc_W_law 713 = .ok (.iload_n 3, 1) := by decide +kernel
theorem dc_W_law_714 : decode bc_W_law 714 = .ok (.bipush 7, 2) := by decide +kernel
theorem dc_W_law_716 : decode bc_W_law 716 = .ok (.iadd, 1) := by decide +kernel
theorem dc_W_law_717 : decode bc_W_law 717 = .ok (.iaload, 1) := by decide +kernel
theorem dc_W_law_718 : decode bc_W_law 718 = .ok (.i2l, 1) := by decide +kernel
theorem dc_W_law_719 : decode bc_W_law 719 = .ok (.ldc2_w 13, 3) := by decide +kernel
theorem dc_W_law_722 : decode bc_W_law 722 = .ok (.land, 1) := by decide +kernel
theorem dc_W_law_723 : decode bc_W_law 723 = .ok (.lor, 1) := by decide +kernel
theorem dc_W_law_724 : decode bc_W_law 724 = .ok (.invokevirtual 64, 3) := by decide +kernel
theorem dc_W_law_727 : decode bc_W_law 727 = .ok (.aload_n 2, 1) := by decide +kernel
theorem dc_W_law_728 : decode bc_W_law 728 = .ok (.aload_n 0, 1) := by decide +kernel
theorem dc_W_law_729 : decode bc_W_law 729 = .ok (.iload_n 3, 1) := by decide +kernel
theorem dc_W_law_730 : decode bc_W_law 730 = .ok (.iconst 1, 1) := by decide +kernel
theorem dc_W_law_731 : decode bc_W_law 731 = .ok (.iadd, 1) := by decide +kernel
theorem dc_W_law_732 : decode bc_W_law 732 = .ok (.iaload, 1) := by decide +kernel
theorem dc_W_law_733 : decode bc_W_law 733 = .ok (.aload_n 0, 1) := by decide +kernel
theorem dc_W_law_734 : decode bc_W_law 734 = .ok (.iload_n 3, 1) := by decide +kernel
theorem dc_W_law_735 : decode bc_W_law 735 = .ok (.iconst 2, 1) := by decide +kernel
theorem dc_W_law_736 : decode bc_W_law 736 = .ok (.iadd, 1) := by decide +kernel
theorem dc_W_law_737 : decode bc_W_law 737 = .ok (.iaload, 1) := by decide +kernel
theorem dc_W_law_738 : decode bc_W_law 738 = .ok (.aload_n 0, 1) := by decide +kernel
theorem dc_W_law_739 : decode bc_W_law 739 = .ok (.iload_n 3, 1) := by decide +kernel
theorem dc_W_law_740 : decode bc_W_law 740 = .ok (.iconst 3, 1) := by decide +kernel
theorem dc_W_law_741 : decode bc_W_law 741 = .ok (.iadd, 1) := by decide +kernel
theorem dc_W_law_742 : decode bc_W_law 742 = .ok (.iaload, 1) := by decide +kernel
theorem dc_W_law_743 : decode bc_W_law 743 = .ok (.aload_n 0, 1) := by decide +kernel
theorem dc_W_law_744 : decode bc_W_law 744 = .ok (.iload_n 3, 1) := by decide +kernel
theorem dc_W_law_745 : decode bc_W_law 745 = .ok (.iconst 4, 1) := by decide +kernel
theorem dc_W_law_746 : decode bc_W_law 746 = .ok (.iadd, 1) := by decide +kernel
theorem dc_W_law_747 : decode bc_W_law 747 = .ok (.iaload, 1) := by decide +kernel
theorem dc_W_law_748 : decode bc_W_law 748 = .ok (.aload_n 0, 1) := by decide +kernel
end
section
theorem dc_W_law_749 : decode bc_W_law 749 = .ok (.iload_n 3, 1) := by decide +kernel
theorem dc_W_law_750 : decode bc_W_law 750 = .ok (.iconst 5, 1) := by decide +kernel
theorem dc_W_law_751 : decode bc_W_law 751 = .ok (.iadd, 1) := by decide +kernel
theorem dc_W_law_752 : decode bc_W_law 752 = .ok (.iaload, 1) := by decide +kernel
theorem dc_W_law_753 : decode bc_W_law 753 = .ok (.aload_n 0, 1) := by decide +kernel
theorem dc_W_law_754 : decode bc_W_law 754 = .ok (.iload_n 3, 1) := by decide +kernel
theorem dc_W_law_755 : decode bc_W_law 755 = .ok (.bipush 6, 2) := by decide +kernel
theorem dc_W_law_757 : decode bc_W_law 757 = .ok (.iadd, 1) := by decide +kernel
theorem dc_W_law_758 : decode bc_W_law 758 = .ok (.iaload, 1) := by decide +kernel
theorem dc_W_law_759 : decode bc_W_law 759 = .ok (.i2l, 1) := by decide +kernel
theorem dc_W_law_760 : decode bc_W_law 760 = .ok (.bipush 32, 2) := by decide +kernel
theorem dc_W_law_762 : decode bc_W_law 762 = .ok (.lshl, 1) := by decide +kernel
theorem dc_W_law_763 : decode bc_W_law 763 = .ok (.aload_n 0, 1) := by decide +kernel
theorem dc_W_law_764 : decode bc_W_law 764 = .ok (.iload_n 3, 1) := by decide +kernel
theorem dc_W_law_765 : decode bc_W_law 765 = .ok (.bipush 7, 2) := by decide +kernel
theorem dc_W_law_767 : decode bc_W_law 767 = .ok (.iadd, 1) := by decide +kernel
theorem dc_W_law_768 : decode bc_W_law 768 = .ok (.iaload, 1) := by decide +kernel
theorem dc_W_law_769 : decode bc_W_law 769 = .ok (.i2l, 1) := by decide +kernel
theorem dc_W_law_770 : decode bc_W_law 770 = .ok (.ldc2_w 13, 3) := by decide +kernel
theorem dc_W_law_773 : decode bc_W_law 773 = .ok (.land, 1) := by decide +kernel
theorem dc_W_law_774 : decode bc_W_law 774 = .ok (.lor, 1) := by decide +kernel
theorem dc_W_law_775 : decode bc_W_law 775 = .ok (.invokevirtual 68, 3) := by decide +kernel
theorem dc_W_law_778 : decode bc_W_law 778 = .ok (.if_icmp .eq 577, 3) := by decide +kernel
theorem dc_W_law_781 : decode bc_W_law 781 = .ok (.iconst 0, 1) := by decide +kernel
theorem dc_W_law_782 : decode bc_W_law 782 = .ok (.ireturn, 1) := by decide +kernel
theorem dc_W_law_783 : decode bc_W_law 783 = .ok (.aload_n 1, 1) := by decide +kernel
theorem dc_W_law_784 : decode bc_W_law 784 = .ok (.aload_n 0, 1) := by decide +kernel
theorem dc_W_law_785 : decode bc_W_law 785 = .ok (.iload_n 3, 1) := by decide +kernel
theorem dc_W_law_786 : decode bc_W_law 786 = .ok (.iconst 1, 1) := by decide +kernel
theorem dc_W_law_787 : decode bc_W_law 787 = .ok (.iadd, 1) := by decide +kernel
theorem dc_W_law_788 : decode bc_W_law 788 = .ok (.iaload, 1) := by decide +kernel
theorem dc_W_law_789 : decode bc_W_law 789 = .ok (.aload_n 0, 1) := by decide +kernel
theorem dc_W_law_790 : decode bc_W_law 790 = .ok (.iload_n 3, 1) := by decide +kernel
theorem dc_W_law_791 : decode bc_W_law 791 = .ok (.iconst 2, 1) := by decide +kernel
theorem dc_W_law_792 : decode bc_W_law 792 = .ok (.iadd, 1) := by decide +kernel
theorem dc_W_law_793 : decode bc_W_law 793 = .ok (.iaload, 1) := by decide +kernel
theorem dc_W_law_794 : decode bc_W_law 794 = .ok (.invokevirtual 69, 3) := by decide +kernel
theorem dc_W_law_797 : decode bc_W_law 797 = .ok (.aload_n 2, 1) := by decide +kernel
theorem dc_W_law_798 : decode bc_W_law 798 = .ok (.aload_n 0, 1) := by decide +kernel
theorem dc_W_law_799 : decode bc_W_law 799 = .ok (.iload_n 3, 1) := by decide +kernel
theorem dc_W_law_800 : decode bc_W_law 800 = .ok (.iconst 1, 1) := by decide +kernel
theorem dc_W_law_801 : decode bc_W_law 801 = .ok (.iadd, 1) := by decide +kernel
theorem dc_W_law_802 : decode bc_W_law 802 = .ok (.iaload, 1) := by decide +kernel
theorem dc_W_law_803 : decode bc_W_law 803 = .ok (.aload_n 0, 1) := by decide +kernel
theorem dc_W_law_804 : decode bc_W_law 804 = .ok (.iload_n 3, 1) := by decide +kernel
theorem dc_W_law_805 : decode bc_W_law 805 = .ok (.iconst 2, 1) := by decide +kernel
theorem dc_W_law_806 : decode bc_W_law 806 = .ok (.iadd, 1) := by decide +kernel
theorem dc_W_law_807 : decode bc_W_law 807 = .ok (.iaload, 1) := by decide +kernel
theorem dc_W_law_808 : decode bc_W_law 808 = .ok (.invokevirtual 72, 3) := by decide +kernel
theorem dc_W_law_811 : decode bc_W_law 811 = .ok (.lcmp, 1) := by decide +kernel
theorem dc_W_law_812 : decode bc_W_law 812 = .ok (.ifCond .eq 543, 3) := by decide +kernel
theorem dc_W_law_815 : decode bc_W_law 815 = .ok (.iconst 0, 1) := by decide +kernel
theorem dc_W_law_816 : decode bc_W_law 816 = .ok (.ireturn, 1) := by decide +kernel
theorem dc_W_law_817 : decode bc_W_law 817 = .ok (.aload_n 1, 1) := by decide +kernel
theorem dc_W_law_818 : decode bc_W_law 818 = .ok (.aload_n 0, 1) := by decide +kernel
theorem dc_W_law_819 : decode bc_W_law 819 = .ok (.iload_n 3, 1) := by decide +kernel
theorem dc_W_law_820 : decode bc_W_law 820 = .ok (.iconst 1, 1) := by decide +kernel
theorem dc_W_law_821 : decode bc_W_law 821 = .ok (.iadd, 1) := by decide +kernel
theorem dc_W_law_822 : decode bc_W_law 822 = .ok (.iaload, 1) := by decide +kernel
theorem dc_W_law_823 : decode bc_W_law 823 = .ok (.aload_n 0, 1) := by decide +kernel
theorem dc_W_law_824 : decode bc_W_law 824 = .ok (.iload_n 3, 1) := by decide +kernel
theorem dc_W_law_825 : decode bc_W_law 825 = .ok (.iconst 2, 1) := by decide +kernel
theorem dc_W_law_826 : decode bc_W_law 826 = .ok (.iadd, 1) := by decide +kernel
theorem dc_W_law_827 : decode bc_W_law 827 = .ok (.iaload, 1) := by decide +kernel
theorem dc_W_law_828 : decode bc_W_law 828 = .ok (.invokevirtual 73, 3) := by decide +kernel
theorem dc_W_law_831 : decode bc_W_law 831 = .ok (.aload_n 2, 1) := by decide +kernel
theorem dc_W_law_832 : decode bc_W_law 832 = .ok (.aload_n 0, 1) := by decide +kernel
theorem dc_W_law_833 : decode bc_W_law 833 = .ok (.iload_n 3, 1) := by decide +kernel
theorem dc_W_law_834 : decode bc_W_law 834 = .ok (.iconst 1, 1) := by decide +kernel
theorem dc_W_law_835 : decode bc_W_law 835 = .ok (.iadd, 1) := by decide +kernel
theorem dc_W_law_836 : decode bc_W_law 836 = .ok (.iaload, 1) := by decide +kernel
theorem dc_W_law_837 : decode bc_W_law 837 = .ok (.aload_n 0, 1) := by decide +kernel
theorem dc_W_law_838 : decode bc_W_law 838 = .ok (.iload_n 3, 1) := by decide +kernel
theorem dc_W_law_839 : decode bc_W_law 839 = .ok (.iconst 2, 1) := by decide +kernel
theorem dc_W_law_840 : decode bc_W_law 840 = .ok (.iadd, 1) := by decide +kernel
theorem dc_W_law_841 : decode bc_W_law 841 = .ok (.iaload, 1) := by decide +kernel
theorem dc_W_law_842 : decode bc_W_law 842 = .ok (.invokevirtual 76, 3) := by decide +kernel
theorem dc_W_law_845 : decode bc_W_law 845 = .ok (.lcmp, 1) := by decide +kernel
theorem dc_W_law_846 : decode bc_W_law 846 = .ok (.ifCond .eq 509, 3) := by decide +kernel
theorem dc_W_law_849 : decode bc_W_law 849 = .ok (.iconst 0, 1) := by decide +kernel
theorem dc_W_law_850 : decode bc_W_law 850 = .ok (.ireturn, 1) := by decide +kernel
theorem dc_W_law_851 : decode bc_W_law 851 = .ok (.aload_n 1, 1) := by decide +kernel
theorem dc_W_law_852 : decode bc_W_law 852 = .ok (.aload_n 0, 1) := by decide +kernel
theorem dc_W_law_853 : decode bc_W_law 853 = .ok (.iload_n 3, 1) := by decide +kernel
theorem dc_W_law_854 : decode bc_W_law 854 = .ok (.iconst 1, 1) := by decide +kernel
theorem dc_W_law_855 : decode bc_W_law 855 = .ok (.iadd, 1) := by decide +kernel
theorem dc_W_law_856 : decode bc_W_law 856 = .ok (.iaload, 1) := by decide +kernel
theorem dc_W_law_857 : decode bc_W_law 857 = .ok (.aload_n 0, 1) := by decide +kernel
theorem dc_W_law_858 : decode bc_W_law 858 = .ok (.iload_n 3, 1) := by decide +kernel
theorem dc_W_law_859 : decode bc_W_law 859 = .ok (.iconst 2, 1) := by decide +kernel
theorem dc_W_law_860 : decode bc_W_law 860 = .ok (.iadd, 1) := by decide +kernel
theorem dc_W_law_861 : decode bc_W_law 861 = .ok (.iaload, 1) := by decide +kernel
theorem dc_W_law_862 : decode bc_W_law 862 = .ok (.invokevirtual 77, 3) := by decide +kernel
theorem dc_W_law_865 : decode bc_W_law 865 = .ok (.aload_n 2, 1) := by decide +kernel
theorem dc_W_law_866 : decode bc_W_law 866 = .ok (.aload_n 0, 1) := by decide +kernel
theorem dc_W_law_867 : decode bc_W_law 867 = .ok (.iload_n 3, 1) := by decide +kernel
theorem dc_W_law_868 : decode bc_W_law 868 = .ok (.iconst 1, 1) := by decide +kernel
theorem dc_W_law_869 : decode bc_W_law 869 = .ok (.iadd, 1) := by decide +kernel
theorem dc_W_law_870 : decode bc_W_law 870 = .ok (.iaload, 1) := by decide +kernel
theorem dc_W_law_871 : decode bc_W_law 871 = .ok (.aload_n 0, 1) := by decide +kernel
theorem dc_W_law_872 : decode bc_W_law 872 = .ok (.iload_n 3, 1) := by decide +kernel
theorem dc_W_law_873 : decode bc_W_law 873 = .ok (.iconst 2, 1) := by decide +kernel
theorem dc_W_law_874 : decode bc_W_law 874 = .ok (.iadd, 1) := by decide +kernel
theorem dc_W_law_875 : decode bc_W_law 875 = .ok (.iaload, 1) := by decide +kernel
theorem dc_W_law_876 : decode bc_W_law 876 = .ok (.invokevirtual 80, 3) := by decide +kernel
theorem dc_W_law_879 : decode bc_W_law 879 = .ok (.if_icmp .eq 476, 3) := by decide +kernel
theorem dc_W_law_882 : decode bc_W_law 882 = .ok (.iconst 0, 1) := by decide +kernel
theorem dc_W_law_883 : decode bc_W_law 883 = .ok (.ireturn, 1) := by decide +kernel
theorem dc_W_law_884 : decode bc_W_law 884 = .ok (.aload_n 1, 1) := by decide +kernel
theorem dc_W_law_885 : decode bc_W_law 885 = .ok (.aload_n 0, 1) := by decide +kernel
theorem dc_W_law_886 : decode bc_W_law 886 = .ok (.iload_n 3, 1) := by decide +kernel
theorem dc_W_law_887 : decode bc_W_law 887 = .ok (.iconst 1, 1) := by decide +kernel
theorem dc_W_law_888 : decode bc_W_law 888 = .ok (.iadd, 1) := by decide +kernel
theorem dc_W_law_889 : decode bc_W_law 889 = .ok (.iaload, 1) := by decide +kernel
theorem dc_W_law_890 : decode bc_W_law 890 = .ok (.aload_n 0, 1) := by decide +kernel
theorem dc_W_law_891 : decode bc_W_law 891 = .ok (.iload_n 3, 1) := by decide +kernel
theorem dc_W_law_892 : decode bc_W_law 892 = .ok (.iconst 2, 1) := by decide +kernel
theorem dc_W_law_893 : decode bc_W_law 893 = .ok (.iadd, 1) := by decide +kernel
theorem dc_W_law_894 : decode bc_W_law 894 = .ok (.iaload, 1) := by decide +kernel
theorem dc_W_law_895 : decode bc_W_law 895 = .ok (.invokevirtual 81, 3) := by decide +kernel
theorem dc_W_law_898 : decode bc_W_law 898 = .ok (.aload_n 2, 1) := by decide +kernel
theorem dc_W_law_899 : decode bc_W_law 899 = .ok (.aload_n 0, 1) := by decide +kernel
theorem dc_W_law_900 : decode bc_W_law 900 = .ok (.iload_n 3, 1) := by decide +kernel
theorem dc_W_law_901 : decode bc_W_law 901 = .ok (.iconst 1, 1) := by decide +kernel
theorem dc_W_law_902 : decode bc_W_law 902 = .ok (.iadd, 1) := by decide +kernel
theorem dc_W_law_903 : decode bc_W_law 903 = .ok (.iaload, 1) := by decide +kernel
theorem dc_W_law_904 : decode bc_W_law 904 = .ok (.aload_n 0, 1) := by decide +kernel
theorem dc_W_law_905 : decode bc_W_law 905 = .ok (.iload_n 3, 1) := by decide +kernel
theorem dc_W_law_906 : decode bc_W_law 906 = .ok (.iconst 2, 1) := by decide +kernel
theorem dc_W_law_907 : decode bc_W_law 907 = .ok (.iadd, 1) := by decide +kernel
theorem dc_W_law_908 : decode bc_W_law 908 = .ok (.iaload, 1) := by decide +kernel
theorem dc_W_law_909 : decode bc_W_law 909 = .ok (.invokevirtual 84, 3) := by decide +kernel
theorem dc_W_law_912 : decode bc_W_law 912 = .ok (.if_icmp .eq 443, 3) := by decide +kernel
theorem dc_W_law_915 : decode bc_W_law 915 = .ok (.iconst 0, 1) := by decide +kernel
theorem dc_W_law_916 : decode bc_W_law 916 = .ok (.ireturn, 1) := by decide +kernel
theorem dc_W_law_917 : decode bc_W_law 917 = .ok (.aload_n 1, 1) := by decide +kernel
theorem dc_W_law_918 : decode bc_W_law 918 = .ok (.aload_n 0, 1) := by decide +kernel
theorem dc_W_law_919 : decode bc_W_law 919 = .ok (.iload_n 3, 1) := by decide +kernel
theorem dc_W_law_920 : decode bc_W_law 920 = .ok (.iconst 1, 1) := by decide +kernel
theorem dc_W_law_921 : decode bc_W_law 921 = .ok (.iadd, 1) := by decide +kernel
theorem dc_W_law_922 : decode bc_W_law 922 = .ok (.iaload, 1) := by decide +kernel
theorem dc_W_law_923 : decode bc_W_law 923 = .ok (.aload_n 0, 1) := by decide +kernel
theorem dc_W_law_924 : decode bc_W_law 924 = .ok (.iload_n 3, 1) := by decide +kernel
theorem dc_W_law_925 : decode bc_W_law 925 = .ok (.iconst 2, 1) := by decide +kernel
theorem dc_W_law_926 : decode bc_W_law 926 = .ok (.iadd, 1) := by decide +kernel
theorem dc_W_law_927 : decode bc_W_law 927 = .ok (.iaload, 1) := by decide +kernel
theorem dc_W_law_928 : decode bc_W_law 928 = .ok (.invokevirtual 85, 3) := by decide +kernel
theorem dc_W_law_931 : decode bc_W_law 931 = .ok (.aload_n 2, 1) := by decide +kernel
theorem dc_W_law_932 : decode bc_W_law 932 = .ok (.aload_n 0, 1) := by decide +kernel
theorem dc_W_law_933 : decode bc_W_law 933 = .ok (.iload_n 3, 1) := by decide +kernel
theorem dc_W_law_934 : decode bc_W_law 934 = .ok (.iconst 1, 1) := by decide +kernel
theorem dc_W_law_935 : decode bc_W_law 935 = .ok (.iadd, 1) := by decide +kernel
theorem dc_W_law_936 : decode bc_W_law 936 = .ok (.iaload, 1) := by decide +kernel
theorem dc_W_law_937 : decode bc_W_law 937 = .ok (.aload_n 0, 1) := by decide +kernel
theorem dc_W_law_938 : decode bc_W_law 938 = .ok (.iload_n 3, 1) := by decide +kernel
theorem dc_W_law_939 : decode bc_W_law 939 = .ok (.iconst 2, 1) := by decide +kernel
theorem dc_W_law_940 : decode bc_W_law 940 = .ok (.iadd, 1) := by decide +kernel
theorem dc_W_law_941 : decode bc_W_law 941 = .ok (.iaload, 1) := by decide +kernel
theorem dc_W_law_942 : decode bc_W_law 942 = .ok (.invokevirtual 88, 3) := by decide +kernel
theorem dc_W_law_945 : decode bc_W_law 945 = .ok (.lcmp, 1) := by decide +kernel
theorem dc_W_law_946 : decode bc_W_law 946 = .ok (.ifCond .eq 409, 3) := by decide +kernel
theorem dc_W_law_949 : decode bc_W_law 949 = .ok (.iconst 0, 1) := by decide +kernel
theorem dc_W_law_950 : decode bc_W_law 950 = .ok (.ireturn, 1) := by decide +kernel
theorem dc_W_law_951 : decode bc_W_law 951 = .ok (.aload_n 1, 1) := by decide +kernel
theorem dc_W_law_952 : decode bc_W_law 952 = .ok (.aload_n 0, 1) := by decide +kernel
theorem dc_W_law_953 : decode bc_W_law 953 = .ok (.iload_n 3, 1) := by decide +kernel
theorem dc_W_law_954 : decode bc_W_law 954 = .ok (.iconst 1, 1) := by decide +kernel
theorem dc_W_law_955 : decode bc_W_law 955 = .ok (.iadd, 1) := by decide +kernel
theorem dc_W_law_956 : decode bc_W_law 956 = .ok (.iaload, 1) := by decide +kernel
theorem dc_W_law_957 : decode bc_W_law 957 = .ok (.aload_n 0, 1) := by decide +kernel
theorem dc_W_law_958 : decode bc_W_law 958 = .ok (.iload_n 3, 1) := by decide +kernel
theorem dc_W_law_959 : decode bc_W_law 959 = .ok (.iconst 2, 1) := by decide +kernel
theorem dc_W_law_960 : decode bc_W_law 960 = .ok (.iadd, 1) := by decide +kernel
theorem dc_W_law_961 : decode bc_W_law 961 = .ok (.iaload, 1) := by decide +kernel
theorem dc_W_law_962 : decode bc_W_law 962 = .ok (.aload_n 0, 1) := by decide +kernel
theorem dc_W_law_963 : decode bc_W_law 963 = .ok (.iload_n 3, 1) := by decide +kernel
theorem dc_W_law_964 : decode bc_W_law 964 = .ok (.iconst 3, 1) := by decide +kernel
theorem dc_W_law_965 : decode bc_W_law 965 = .ok (.iadd, 1) := by decide +kernel
theorem dc_W_law_966 : decode bc_W_law 966 = .ok (.iaload, 1) := by decide +kernel
theorem dc_W_law_967 : decode bc_W_law 967 = .ok (.invokevirtual 89, 3) := by decide +kernel
theorem dc_W_law_970 : decode bc_W_law 970 = .ok (.aload_n 2, 1) := by decide +kernel
theorem dc_W_law_971 : decode bc_W_law 971 = .ok (.aload_n 0, 1) := by decide +kernel
theorem dc_W_law_972 : decode bc_W_law 972 = .ok (.iload_n 3, 1) := by decide +kernel
theorem dc_W_law_973 : decode bc_W_law 973 = .ok (.iconst 1, 1) := by decide +kernel
theorem dc_W_law_974 : decode bc_W_law 974 = .ok (.iadd, 1) := by decide +kernel
theorem dc_W_law_975 : decode bc_W_law 975 = .ok (.iaload, 1) := by decide +kernel
theorem dc_W_law_976 : decode bc_W_law 976 = .ok (.aload_n 0, 1) := by decide +kernel
theorem dc_W_law_977 : decode bc_W_law 977 = .ok (.iload_n 3, 1) := by decide +kernel
theorem dc_W_law_978 : decode bc_W_law 978 = .ok (.iconst 2, 1) := by decide +kernel
theorem dc_W_law_979 : decode bc_W_law 979 = .ok (.iadd, 1) := by decide +kernel
theorem dc_W_law_980 : decode bc_W_law 980 = .ok (.iaload, 1) := by decide +kernel
theorem dc_W_law_981 : decode bc_W_law 981 = .ok (.aload_n 0, 1) := by decide +kernel
theorem dc_W_law_982 : decode bc_W_law 982 = .ok (.iload_n 3, 1) := by decide +kernel
theorem dc_W_law_983 : decode bc_W_law 983 = .ok (.iconst 3, 1) := by decide +kernel
theorem dc_W_law_984 : decode bc_W_law 984 = .ok (.iadd, 1) := by decide +kernel
theorem dc_W_law_985 : decode bc_W_law 985 = .ok (.iaload, 1) := by decide +kernel
theorem dc_W_law_986 : decode bc_W_law 986 = .ok (.invokevirtual 93, 3) := by decide +kernel
theorem dc_W_law_989 : decode bc_W_law 989 = .ok (.if_icmp .eq 366, 3) := by decide +kernel
theorem dc_W_law_992 : decode bc_W_law 992 = .ok (.iconst 0, 1) := by decide +kernel
theorem dc_W_law_993 : decode bc_W_law 993 = .ok (.ireturn, 1) := by decide +kernel
theorem dc_W_law_994 : decode bc_W_law 994 = .ok (.aload_n 1, 1) := by decide +kernel
theorem dc_W_law_995 : decode bc_W_law 995 = .ok (.aload_n 0, 1) := by decide +kernel
theorem dc_W_law_996 : decode bc_W_law 996 = .ok (.iload_n 3, 1) := by decide +kernel
theorem dc_W_law_997 : decode bc_W_law 997 = .ok (.iconst 1, 1) := by decide +kernel
theorem dc_W_law_998 : decode bc_W_law 998 = .ok (.iadd, 1) := by decide +kernel
theorem dc_W_law_999 : decode bc_W_law 999 = .ok (.iaload, 1) := by decide +kernel
theorem dc_W_law_1000 : decode bc_W_law 1000 = .ok (.aload_n 0, 1) := by decide +kernel
theorem dc_W_law_1001 : decode bc_W_law 1001 = .ok (.iload_n 3, 1) := by decide +kernel
theorem dc_W_law_1002 : decode bc_W_law 1002 = .ok (.iconst 2, 1) := by decide +kernel
theorem dc_W_law_1003 : decode bc_W_law 1003 = .ok (.iadd, 1) := by decide +kernel
theorem dc_W_law_1004 : decode bc_W_law 1004 = .ok (.iaload, 1) := by decide +kernel
theorem dc_W_law_1005 : decode bc_W_law 1005 = .ok (.invokevirtual 94, 3) := by decide +kernel
theorem dc_W_law_1008 : decode bc_W_law 1008 = .ok (.aload_n 2, 1) := by decide +kernel
theorem dc_W_law_1009 : decode bc_W_law 1009 = .ok (.aload_n 0, 1) := by decide +kernel
theorem dc_W_law_1010 : decode bc_W_law 1010 = .ok (.iload_n 3, 1) := by decide +kernel
theorem dc_W_law_1011 : decode bc_W_law 1011 = .ok (.iconst 1, 1) := by decide +kernel
theorem dc_W_law_1012 : decode bc_W_law 1012 = .ok (.iadd, 1) := by decide +kernel
theorem dc_W_law_1013 : decode bc_W_law 1013 = .ok (.iaload, 1) := by decide +kernel
theorem dc_W_law_1014 : decode bc_W_law 1014 = .ok (.aload_n 0, 1) := by decide +kernel
theorem dc_W_law_1015 : decode bc_W_law 1015 = .ok (.iload_n 3, 1) := by decide +kernel
theorem dc_W_law_1016 : decode bc_W_law 1016 = .ok (.iconst 2, 1) := by decide +kernel
theorem dc_W_law_1017 : decode bc_W_law 1017 = .ok (.iadd, 1) := by decide +kernel
theorem dc_W_law_1018 : decode bc_W_law 1018 = .ok (.iaload, 1) := by decide +kernel
theorem dc_W_law_1019 : decode bc_W_law 1019 = .ok (.invokevirtual 97, 3) := by decide +kernel
theorem dc_W_law_1022 : decode bc_W_law 1022 = .ok (.lcmp, 1) := by decide +kernel
theorem dc_W_law_1023 : decode bc_W_law 1023 = .ok (.ifCond .eq 332, 3) := by decide +kernel
theorem dc_W_law_1026 : decode bc_W_law 1026 = .ok (.iconst 0, 1) := by decide +kernel
theorem dc_W_law_1027 : decode bc_W_law 1027 = .ok (.ireturn, 1) := by decide +kernel
theorem dc_W_law_1028 : decode bc_W_law 1028 = .ok (.aload_n 1, 1) := by decide +kernel
theorem dc_W_law_1029 : decode bc_W_law 1029 = .ok (.aload_n 0, 1) := by decide +kernel
theorem dc_W_law_1030 : decode bc_W_law 1030 = .ok (.iload_n 3, 1) := by decide +kernel
theorem dc_W_law_1031 : decode bc_W_law 1031 = .ok (.iconst 1, 1) := by decide +kernel
theorem dc_W_law_1032 : decode bc_W_law 1032 = .ok (.iadd, 1) := by decide +kernel
theorem dc_W_law_1033 : decode bc_W_law 1033 = .ok (.iaload, 1) := by decide +kernel
theorem dc_W_law_1034 : decode bc_W_law 1034 = .ok (.aload_n 0, 1) := by decide +kernel
theorem dc_W_law_1035 : decode bc_W_law 1035 = .ok (.iload_n 3, 1) := by decide +kernel
theorem dc_W_law_1036 : decode bc_W_law 1036 = .ok (.iconst 2, 1) := by decide +kernel
theorem dc_W_law_1037 : decode bc_W_law 1037 = .ok (.iadd, 1) := by decide +kernel
theorem dc_W_law_1038 : decode bc_W_law 1038 = .ok (.iaload, 1) := by decide +kernel
theorem dc_W_law_1039 : decode bc_W_law 1039 = .ok (.invokevirtual 98, 3) := by decide +kernel
theorem dc_W_law_1042 : decode bc_W_law 1042 = .ok (.aload_n 2, 1) := by decide +kernel
theorem dc_W_law_1043 : decode bc_W_law 1043 = .ok (.aload_n 0, 1) := by decide +kernel
theorem dc_W_law_1044 : decode bc_W_law 1044 = .ok (.iload_n 3, 1) := by decide +kernel
theorem dc_W_law_1045 : decode bc_W_law 1045 = .ok (.iconst 1, 1) := by decide +kernel
theorem dc_W_law_1046 : decode bc_W_law 1046 = .ok (.iadd, 1) := by decide +kernel
theorem dc_W_law_1047 : decode bc_W_law 1047 = .ok (.iaload, 1) := by decide +kernel
theorem dc_W_law_1048 : decode bc_W_law 1048 = .ok (.aload_n 0, 1) := by decide +kernel
theorem dc_W_law_1049 : decode bc_W_law 1049 = .ok (.iload_n 3, 1) := by decide +kernel
theorem dc_W_law_1050 : decode bc_W_law 1050 = .ok (.iconst 2, 1) := by decide +kernel
theorem dc_W_law_1051 : decode bc_W_law 1051 = .ok (.iadd, 1) := by decide +kernel
theorem dc_W_law_1052 : decode bc_W_law 1052 = .ok (.iaload, 1) := by decide +kernel
theorem dc_W_law_1053 : decode bc_W_law 1053 = .ok (.invokevirtual 101, 3) := by decide +kernel
theorem dc_W_law_1056 : decode bc_W_law 1056 = .ok (.if_icmp .eq 299, 3) := by decide +kernel
theorem dc_W_law_1059 : decode bc_W_law 1059 = .ok (.iconst 0, 1) := by decide +kernel
theorem dc_W_law_1060 : decode bc_W_law 1060 = .ok (.ireturn, 1) := by decide +kernel
theorem dc_W_law_1061 : decode bc_W_law 1061 = .ok (.aload_n 1, 1) := by decide +kernel
theorem dc_W_law_1062 : decode bc_W_law 1062 = .ok (.aload_n 0, 1) := by decide +kernel
theorem dc_W_law_1063 : decode bc_W_law 1063 = .ok (.iload_n 3, 1) := by decide +kernel
theorem dc_W_law_1064 : decode bc_W_law 1064 = .ok (.iconst 1, 1) := by decide +kernel
theorem dc_W_law_1065 : decode bc_W_law 1065 = .ok (.iadd, 1) := by decide +kernel
end
section
theorem dc_W_law_1066 : decode bc_W_law 1066 = .ok (.iaload, 1) := by decide +kernel
theorem dc_W_law_1067 : decode bc_W_law 1067 = .ok (.invokevirtual 102, 3) := by decide +kernel
theorem dc_W_law_1070 : decode bc_W_law 1070 = .ok (.aload_n 2, 1) := by decide +kernel
theorem dc_W_law_1071 : decode bc_W_law 1071 = .ok (.aload_n 0, 1) := by decide +kernel
theorem dc_W_law_1072 : decode bc_W_law 1072 = .ok (.iload_n 3, 1) := by decide +kernel
theorem dc_W_law_1073 : decode bc_W_law 1073 = .ok (.iconst 1, 1) := by decide +kernel
theorem dc_W_law_1074 : decode bc_W_law 1074 = .ok (.iadd, 1) := by decide +kernel
theorem dc_W_law_1075 : decode bc_W_law 1075 = .ok (.iaload, 1) := by decide +kernel
theorem dc_W_law_1076 : decode bc_W_law 1076 = .ok (.invokevirtual 106, 3) := by decide +kernel
theorem dc_W_law_1079 : decode bc_W_law 1079 = .ok (.if_icmp .eq 276, 3) := by decide +kernel
theorem dc_W_law_1082 : decode bc_W_law 1082 = .ok (.iconst 0, 1) := by decide +kernel
theorem dc_W_law_1083 : decode bc_W_law 1083 = .ok (.ireturn, 1) := by decide +kernel
theorem dc_W_law_1084 : decode bc_W_law 1084 = .ok (.aload_n 1, 1) := by decide +kernel
theorem dc_W_law_1085 : decode bc_W_law 1085 = .ok (.aload_n 0, 1) := by decide +kernel
theorem dc_W_law_1086 : decode bc_W_law 1086 = .ok (.iload_n 3, 1) := by decide +kernel
theorem dc_W_law_1087 : decode bc_W_law 1087 = .ok (.iconst 1, 1) := by decide +kernel
theorem dc_W_law_1088 : decode bc_W_law 1088 = .ok (.iadd, 1) := by decide +kernel
theorem dc_W_law_1089 : decode bc_W_law 1089 = .ok (.iaload, 1) := by decide +kernel
theorem dc_W_law_1090 : decode bc_W_law 1090 = .ok (.invokevirtual 107, 3) := by decide +kernel
theorem dc_W_law_1093 : decode bc_W_law 1093 = .ok (.aload_n 2, 1) := by decide +kernel
theorem dc_W_law_1094 : decode bc_W_law 1094 = .ok (.aload_n 0, 1) := by decide +kernel
theorem dc_W_law_1095 : decode bc_W_law 1095 = .ok (.iload_n 3, 1) := by decide +kernel
theorem dc_W_law_1096 : decode bc_W_law 1096 = .ok (.iconst 1, 1) := by decide +kernel
theorem dc_W_law_1097 : decode bc_W_law 1097 = .ok (.iadd, 1) := by decide +kernel
theorem dc_W_law_1098 : decode bc_W_law 1098 = .ok (.iaload, 1) := by decide +kernel
theorem dc_W_law_1099 : decode bc_W_law 1099 = .ok (.invokevirtual 110, 3) := by decide +kernel
theorem dc_W_law_1102 : decode bc_W_law 1102 = .ok (.if_icmp .eq 253, 3) := by decide +kernel
theorem dc_W_law_1105 : decode bc_W_law 1105 = .ok (.iconst 0, 1) := by decide +kernel
theorem dc_W_law_1106 : decode bc_W_law 1106 = .ok (.ireturn, 1) := by decide +kernel
theorem dc_W_law_1107 : decode bc_W_law 1107 = .ok (.aload_n 1, 1) := by decide +kernel
theorem dc_W_law_1108 : decode bc_W_law 1108 = .ok (.aload_n 0, 1) := by decide +kernel
theorem dc_W_law_1109 : decode bc_W_law 1109 = .ok (.iload_n 3, 1) := by decide +kernel
theorem dc_W_law_1110 : decode bc_W_law 1110 = .ok (.iconst 1, 1) := by decide +kernel
theorem dc_W_law_1111 : decode bc_W_law 1111 = .ok (.iadd, 1) := by decide +kernel
theorem dc_W_law_1112 : decode bc_W_law 1112 = .ok (.iaload, 1) := by decide +kernel
theorem dc_W_law_1113 : decode bc_W_law 1113 = .ok (.aload_n 0, 1) := by decide +kernel
theorem dc_W_law_1114 : decode bc_W_law 1114 = .ok (.iload_n 3, 1) := by decide +kernel
theorem dc_W_law_1115 : decode bc_W_law 1115 = .ok (.iconst 2, 1) := by decide +kernel
theorem dc_W_law_1116 : decode bc_W_law 1116 = .ok (.iadd, 1) := by decide +kernel
theorem dc_W_law_1117 : decode bc_W_law 1117 = .ok (.iaload, 1) := by decide +kernel
theorem dc_W_law_1118 : decode bc_W_law 1118 = .ok (.i2l, 1) := by decide +kernel
theorem dc_W_law_1119 : decode bc_W_law 1119 = .ok (.bipush 32, 2) := by decide +kernel
theorem dc_W_law_1121 : decode bc_W_law 1121 = .ok (.lshl, 1) := by decide +kernel
theorem dc_W_law_1122 : decode bc_W_law 1122 = .ok (.aload_n 0, 1) := by decide +kernel
theorem dc_W_law_1123 : decode bc_W_law 1123 = .ok (.iload_n 3, 1) := by decide +kernel
theorem dc_W_law_1124 : decode bc_W_law 1124 = .ok (.iconst 3, 1) := by decide +kernel
theorem dc_W_law_1125 : decode bc_W_law 1125 = .ok (.iadd, 1) := by decide +kernel
theorem dc_W_law_1126 : decode bc_W_law 1126 = .ok (.iaload, 1) := by decide +kernel
theorem dc_W_law_1127 : decode bc_W_law 1127 = .ok (.i2l, 1) := by decide +kernel
theorem dc_W_law_1128 : decode bc_W_law 1128 = .ok (.ldc2_w 13, 3) := by decide +kernel
theorem dc_W_law_1131 : decode bc_W_law 1131 = .ok (.land, 1) := by decide +kernel
theorem dc_W_law_1132 : decode bc_W_law 1132 = .ok (.lor, 1) := by decide +kernel
theorem dc_W_law_1133 : decode bc_W_law 1133 = .ok (.invokevirtual 111, 3) := by decide +kernel
theorem dc_W_law_1136 : decode bc_W_law 1136 = .ok (.aload_n 2, 1) := by decide +kernel
theorem dc_W_law_1137 : decode bc_W_law 1137 = .ok (.aload_n 0, 1) := by decide +kernel
theorem dc_W_law_1138 : decode bc_W_law 1138 = .ok (.iload_n 3, 1) := by decide +kernel
theorem dc_W_law_1139 : decode bc_W_law 1139 = .ok (.iconst 1, 1) := by decide +kernel
theorem dc_W_law_1140 : decode bc_W_law 1140 = .ok (.iadd, 1) := by decide +kernel
theorem dc_W_law_1141 : decode bc_W_law 1141 = .ok (.iaload, 1) := by decide +kernel
theorem dc_W_law_1142 : decode bc_W_law 1142 = .ok (.aload_n 0, 1) := by decide +kernel
theorem dc_W_law_1143 : decode bc_W_law 1143 = .ok (.iload_n 3, 1) := by decide +kernel
theorem dc_W_law_1144 : decode bc_W_law 1144 = .ok (.iconst 2, 1) := by decide +kernel
theorem dc_W_law_1145 : decode bc_W_law 1145 = .ok (.iadd, 1) := by decide +kernel
theorem dc_W_law_1146 : decode bc_W_law 1146 = .ok (.iaload, 1) := by decide +kernel
theorem dc_W_law_1147 : decode bc_W_law 1147 = .ok (.i2l, 1) := by decide +kernel
theorem dc_W_law_1148 : decode bc_W_law 1148 = .ok (.bipush 32, 2) := by decide +kernel
theorem dc_W_law_1150 : decode bc_W_law 1150 = .ok (.lshl, 1) := by decide +kernel
theorem dc_W_law_1151 : decode bc_W_law 1151 = .ok (.aload_n 0, 1) := by decide +kernel
theorem dc_W_law_1152 : decode bc_W_law 1152 = .ok (.iload_n 3, 1) := by decide +kernel
theorem dc_W_law_1153 : decode bc_W_law 1153 = .ok (.iconst 3, 1) := by decide +kernel
theorem dc_W_law_1154 : decode bc_W_law 1154 = .ok (.iadd, 1) := by decide +kernel
theorem dc_W_law_1155 : decode bc_W_law 1155 = .ok (.iaload, 1) := by decide +kernel
theorem dc_W_law_1156 : decode bc_W_law 1156 = .ok (.i2l, 1) := by decide +kernel
theorem dc_W_law_1157 : decode bc_W_law 1157 = .ok (.ldc2_w 13, 3) := by decide +kernel
theorem dc_W_law_1160 : decode bc_W_law 1160 = .ok (.land, 1) := by decide +kernel
theorem dc_W_law_1161 : decode bc_W_law 1161 = .ok (.lor, 1) := by decide +kernel
theorem dc_W_law_1162 : decode bc_W_law 1162 = .ok (.invokevirtual 115, 3) := by decide +kernel
theorem dc_W_law_1165 : decode bc_W_law 1165 = .ok (.lcmp, 1) := by decide +kernel
theorem dc_W_law_1166 : decode bc_W_law 1166 = .ok (.ifCond .eq 189, 3) := by decide +kernel
theorem dc_W_law_1169 : decode bc_W_law 1169 = .ok (.iconst 0, 1) := by decide +kernel
theorem dc_W_law_1170 : decode bc_W_law 1170 = .ok (.ireturn, 1) := by decide +kernel
theorem dc_W_law_1171 : decode bc_W_law 1171 = .ok (.aload_n 1, 1) := by decide +kernel
theorem dc_W_law_1172 : decode bc_W_law 1172 = .ok (.aload_n 0, 1) := by decide +kernel
theorem dc_W_law_1173 : decode bc_W_law 1173 = .ok (.iload_n 3, 1) := by decide +kernel
theorem dc_W_law_1174 : decode bc_W_law 1174 = .ok (.iconst 1, 1) := by decide +kernel
theorem dc_W_law_1175 : decode bc_W_law 1175 = .ok (.iadd, 1) := by decide +kernel
theorem dc_W_law_1176 : decode bc_W_law 1176 = .ok (.iaload, 1) := by decide +kernel
theorem dc_W_law_1177 : decode bc_W_law 1177 = .ok (.aload_n 0, 1) := by decide +kernel
theorem dc_W_law_1178 : decode bc_W_law 1178 = .ok (.iload_n 3, 1) := by decide +kernel
theorem dc_W_law_1179 : decode bc_W_law 1179 = .ok (.iconst 2, 1) := by decide +kernel
theorem dc_W_law_1180 : decode bc_W_law 1180 = .ok (.iadd, 1) := by decide +kernel
theorem dc_W_law_1181 : decode bc_W_law 1181 = .ok (.iaload, 1) := by decide +kernel
theorem dc_W_law_1182 : decode bc_W_law 1182 = .ok (.i2l, 1) := by decide +kernel
theorem dc_W_law_1183 : decode bc_W_law 1183 = .ok (.bipush 32, 2) := by decide +kernel
theorem dc_W_law_1185 : decode bc_W_law 1185 = .ok (.lshl, 1) := by decide +kernel
theorem dc_W_law_1186 : decode bc_W_law 1186 = .ok (.aload_n 0, 1) := by decide +kernel
theorem dc_W_law_1187 : decode bc_W_law 1187 = .ok (.iload_n 3, 1) := by decide +kernel
theorem dc_W_law_1188 : decode bc_W_law 1188 = .ok (.iconst 3, 1) := by decide +kernel
theorem dc_W_law_1189 : decode bc_W_law 1189 = .ok (.iadd, 1) := by decide +kernel
theorem dc_W_law_1190 : decode bc_W_law 1190 = .ok (.iaload, 1) := by decide +kernel
theorem dc_W_law_1191 : decode bc_W_law 1191 = .ok (.i2l, 1) := by decide +kernel
theorem dc_W_law_1192 : decode bc_W_law 1192 = .ok (.ldc2_w 13, 3) := by decide +kernel
theorem dc_W_law_1195 : decode bc_W_law 1195 = .ok (.land, 1) := by decide +kernel
theorem dc_W_law_1196 : decode bc_W_law 1196 = .ok (.lor, 1) := by decide +kernel
theorem dc_W_law_1197 : decode bc_W_law 1197 = .ok (.aload_n 0, 1) := by decide +kernel
theorem dc_W_law_1198 : decode bc_W_law 1198 = .ok (.iload_n 3, 1) := by decide +kernel
theorem dc_W_law_1199 : decode bc_W_law 1199 = .ok (.iconst 4, 1) := by decide +kernel
theorem dc_W_law_1200 : decode bc_W_law 1200 = .ok (.iadd, 1) := by decide +kernel
theorem dc_W_law_1201 : decode bc_W_law 1201 = .ok (.iaload, 1) := by decide +kernel
theorem dc_W_law_1202 : decode bc_W_law 1202 = .ok (.i2l, 1) := by decide +kernel
theorem dc_W_law_1203 : decode bc_W_law 1203 = .ok (.bipush 32, 2) := by decide +kernel
theorem dc_W_law_1205 : decode bc_W_law 1205 = .ok (.lshl, 1) := by decide +kernel
theorem dc_W_law_1206 : decode bc_W_law 1206 = .ok (.aload_n 0, 1) := by decide +kernel
theorem dc_W_law_1207 : decode bc_W_law 1207 = .ok (.iload_n 3, 1) := by decide +kernel
theorem dc_W_law_1208 : decode bc_W_law 1208 = .ok (.iconst 5, 1) := by decide +kernel
theorem dc_W_law_1209 : decode bc_W_law 1209 = .ok (.iadd, 1) := by decide +kernel
theorem dc_W_law_1210 : decode bc_W_law 1210 = .ok (.iaload, 1) := by decide +kernel
theorem dc_W_law_1211 : decode bc_W_law 1211 = .ok (.i2l, 1) := by decide +kernel
theorem dc_W_law_1212 : decode bc_W_law 1212 = .ok (.ldc2_w 13, 3) := by decide +kernel
theorem dc_W_law_1215 : decode bc_W_law 1215 = .ok (.land, 1) := by decide +kernel
theorem dc_W_law_1216 : decode bc_W_law 1216 = .ok (.lor, 1) := by decide +kernel
theorem dc_W_law_1217 : decode bc_W_law 1217 = .ok (.invokevirtual 116, 3) := by decide +kernel
theorem dc_W_law_1220 : decode bc_W_law 1220 = .ok (.aload_n 2, 1) := by decide +kernel
theorem dc_W_law_1221 : decode bc_W_law 1221 = .ok (.aload_n 0, 1) := by decide +kernel
theorem dc_W_law_1222 : decode bc_W_law 1222 = .ok (.iload_n 3, 1) := by decide +kernel
theorem dc_W_law_1223 : decode bc_W_law 1223 = .ok (.iconst 1, 1) := by decide +kernel
theorem dc_W_law_1224 : decode bc_W_law 1224 = .ok (.iadd, 1) := by decide +kernel
theorem dc_W_law_1225 : decode bc_W_law 1225 = .ok (.iaload, 1) := by decide +kernel
theorem dc_W_law_1226 : decode bc_W_law 1226 = .ok (.aload_n 0, 1) := by decide +kernel
theorem dc_W_law_1227 : decode bc_W_law 1227 = .ok (.iload_n 3, 1) := by decide +kernel
theorem dc_W_law_1228 : decode bc_W_law 1228 = .ok (.iconst 2, 1) := by decide +kernel
theorem dc_W_law_1229 : decode bc_W_law 1229 = .ok (.iadd, 1) := by decide +kernel
theorem dc_W_law_1230 : decode bc_W_law 1230 = .ok (.iaload, 1) := by decide +kernel
theorem dc_W_law_1231 : decode bc_W_law 1231 = .ok (.i2l, 1) := by decide +kernel
theorem dc_W_law_1232 : decode bc_W_law 1232 = .ok (.bipush 32, 2) := by decide +kernel
theorem dc_W_law_1234 : decode bc_W_law 1234 = .ok (.lshl, 1) := by decide +kernel
theorem dc_W_law_1235 : decode bc_W_law 1235 = .ok (.aload_n 0, 1) := by decide +kernel
theorem dc_W_law_1236 : decode bc_W_law 1236 = .ok (.iload_n 3, 1) := by decide +kernel
theorem dc_W_law_1237 : decode bc_W_law 1237 = .ok (.iconst 3, 1) := by decide +kernel
theorem dc_W_law_1238 : decode bc_W_law 1238 = .ok (.iadd, 1) := by decide +kernel
theorem dc_W_law_1239 : decode bc_W_law 1239 = .ok (.iaload, 1) := by decide +kernel
theorem dc_W_law_1240 : decode bc_W_law 1240 = .ok (.i2l, 1) := by decide +kernel
theorem dc_W_law_1241 : decode bc_W_law 1241 = .ok (.ldc2_w 13, 3) := by decide +kernel
theorem dc_W_law_1244 : decode bc_W_law 1244 = .ok (.land, 1) := by decide +kernel
theorem dc_W_law_1245 : decode bc_W_law 1245 = .ok (.lor, 1) := by decide +kernel
theorem dc_W_law_1246 : decode bc_W_law 1246 = .ok (.aload_n 0, 1) := by decide +kernel
theorem dc_W_law_1247 : decode bc_W_law 1247 = .ok (.iload_n 3, 1) := by decide +kernel
theorem dc_W_law_1248 : decode bc_W_law 1248 = .ok (.iconst 4, 1) := by decide +kernel
theorem dc_W_law_1249 : decode bc_W_law 1249 = .ok (.iadd, 1) := by decide +kernel
theorem dc_W_law_1250 : decode bc_W_law 1250 = .ok (.iaload, 1) := by decide +kernel
theorem dc_W_law_1251 : decode bc_W_law 1251 = .ok (.i2l, 1) := by decide +kernel
theorem dc_W_law_1252 : decode bc_W_law 1252 = .ok (.bipush 32, 2) := by decide +kernel
theorem dc_W_law_1254 : decode bc_W_law 1254 = .ok (.lshl, 1) := by decide +kernel
theorem dc_W_law_1255 : decode bc_W_law 1255 = .ok (.aload_n 0, 1) := by decide +kernel
theorem dc_W_law_1256 : decode bc_W_law 1256 = .ok (.iload_n 3, 1) := by decide +kernel
theorem dc_W_law_1257 : decode bc_W_law 1257 = .ok (.iconst 5, 1) := by decide +kernel
theorem dc_W_law_1258 : decode bc_W_law 1258 = .ok (.iadd, 1) := by decide +kernel
theorem dc_W_law_1259 : decode bc_W_law 1259 = .ok (.iaload, 1) := by decide +kernel
theorem dc_W_law_1260 : decode bc_W_law 1260 = .ok (.i2l, 1) := by decide +kernel
theorem dc_W_law_1261 : decode bc_W_law 1261 = .ok (.ldc2_w 13, 3) := by decide +kernel
theorem dc_W_law_1264 : decode bc_W_law 1264 = .ok (.land, 1) := by decide +kernel
theorem dc_W_law_1265 : decode bc_W_law 1265 = .ok (.lor, 1) := by decide +kernel
theorem dc_W_law_1266 : decode bc_W_law 1266 = .ok (.invokevirtual 120, 3) := by decide +kernel
theorem dc_W_law_1269 : decode bc_W_law 1269 = .ok (.if_icmp .eq 86, 3) := by decide +kernel
theorem dc_W_law_1272 : decode bc_W_law 1272 = .ok (.iconst 0, 1) := by decide +kernel
theorem dc_W_law_1273 : decode bc_W_law 1273 = .ok (.ireturn, 1) := by decide +kernel
theorem dc_W_law_1274 : decode bc_W_law 1274 = .ok (.aload_n 1, 1) := by decide +kernel
theorem dc_W_law_1275 : decode bc_W_law 1275 = .ok (.aload_n 0, 1) := by decide +kernel
theorem dc_W_law_1276 : decode bc_W_law 1276 = .ok (.iload_n 3, 1) := by decide +kernel
theorem dc_W_law_1277 : decode bc_W_law 1277 = .ok (.iconst 1, 1) := by decide +kernel
theorem dc_W_law_1278 : decode bc_W_law 1278 = .ok (.iadd, 1) := by decide +kernel
theorem dc_W_law_1279 : decode bc_W_law 1279 = .ok (.iaload, 1) := by decide +kernel
theorem dc_W_law_1280 : decode bc_W_law 1280 = .ok (.invokevirtual 121, 3) := by decide +kernel
theorem dc_W_law_1283 : decode bc_W_law 1283 = .ok (.aload_n 2, 1) := by decide +kernel
theorem dc_W_law_1284 : decode bc_W_law 1284 = .ok (.aload_n 0, 1) := by decide +kernel
theorem dc_W_law_1285 : decode bc_W_law 1285 = .ok (.iload_n 3, 1) := by decide +kernel
theorem dc_W_law_1286 : decode bc_W_law 1286 = .ok (.iconst 1, 1) := by decide +kernel
theorem dc_W_law_1287 : decode bc_W_law 1287 = .ok (.iadd, 1) := by decide +kernel
theorem dc_W_law_1288 : decode bc_W_law 1288 = .ok (.iaload, 1) := by decide +kernel
theorem dc_W_law_1289 : decode bc_W_law 1289 = .ok (.invokevirtual 125, 3) := by decide +kernel
theorem dc_W_law_1292 : decode bc_W_law 1292 = .ok (.lcmp, 1) := by decide +kernel
theorem dc_W_law_1293 : decode bc_W_law 1293 = .ok (.ifCond .eq 62, 3) := by decide +kernel
theorem dc_W_law_1296 : decode bc_W_law 1296 = .ok (.iconst 0, 1) := by decide +kernel
theorem dc_W_law_1297 : decode bc_W_law 1297 = .ok (.ireturn, 1) := by decide +kernel
theorem dc_W_law_1298 : decode bc_W_law 1298 = .ok (.aload_n 1, 1) := by decide +kernel
theorem dc_W_law_1299 : decode bc_W_law 1299 = .ok (.aload_n 0, 1) := by decide +kernel
theorem dc_W_law_1300 : decode bc_W_law 1300 = .ok (.iload_n 3, 1) := by decide +kernel
theorem dc_W_law_1301 : decode bc_W_law 1301 = .ok (.iconst 1, 1) := by decide +kernel
theorem dc_W_law_1302 : decode bc_W_law 1302 = .ok (.iadd, 1) := by decide +kernel
theorem dc_W_law_1303 : decode bc_W_law 1303 = .ok (.iaload, 1) := by decide +kernel
theorem dc_W_law_1304 : decode bc_W_law 1304 = .ok (.aload_n 0, 1) := by decide +kernel
theorem dc_W_law_1305 : decode bc_W_law 1305 = .ok (.iload_n 3, 1) := by decide +kernel
theorem dc_W_law_1306 : decode bc_W_law 1306 = .ok (.iconst 2, 1) := by decide +kernel
theorem dc_W_law_1307 : decode bc_W_law 1307 = .ok (.iadd, 1) := by decide +kernel
theorem dc_W_law_1308 : decode bc_W_law 1308 = .ok (.iaload, 1) := by decide +kernel
theorem dc_W_law_1309 : decode bc_W_law 1309 = .ok (.invokevirtual 126, 3) := by decide +kernel
theorem dc_W_law_1312 : decode bc_W_law 1312 = .ok (.aload_n 2, 1) := by decide +kernel
theorem dc_W_law_1313 : decode bc_W_law 1313 = .ok (.aload_n 0, 1) := by decide +kernel
theorem dc_W_law_1314 : decode bc_W_law 1314 = .ok (.iload_n 3, 1) := by decide +kernel
theorem dc_W_law_1315 : decode bc_W_law 1315 = .ok (.iconst 1, 1) := by decide +kernel
theorem dc_W_law_1316 : decode bc_W_law 1316 = .ok (.iadd, 1) := by decide +kernel
theorem dc_W_law_1317 : decode bc_W_law 1317 = .ok (.iaload, 1) := by decide +kernel
theorem dc_W_law_1318 : decode bc_W_law 1318 = .ok (.aload_n 0, 1) := by decide +kernel
theorem dc_W_law_1319 : decode bc_W_law 1319 = .ok (.iload_n 3, 1) := by decide +kernel
theorem dc_W_law_1320 : decode bc_W_law 1320 = .ok (.iconst 2, 1) := by decide +kernel
theorem dc_W_law_1321 : decode bc_W_law 1321 = .ok (.iadd, 1) := by decide +kernel
theorem dc_W_law_1322 : decode bc_W_law 1322 = .ok (.iaload, 1) := by decide +kernel
theorem dc_W_law_1323 : decode bc_W_law 1323 = .ok (.invokevirtual 129, 3) := by decide +kernel
theorem dc_W_law_1326 : decode bc_W_law 1326 = .ok (.lcmp, 1) := by decide +kernel
theorem dc_W_law_1327 : decode bc_W_law 1327 = .ok (.ifCond .eq 28, 3) := by decide +kernel
theorem dc_W_law_1330 : decode bc_W_law 1330 = .ok (.iconst 0, 1) := by decide +kernel
theorem dc_W_law_1331 : decode bc_W_law 1331 = .ok (.ireturn, 1) := by decide +kernel
theorem dc_W_law_1332 : decode bc_W_law 1332 = .ok (.aload_n 1, 1) := by decide +kernel
theorem dc_W_law_1333 : decode bc_W_law 1333 = .ok (.aload_n 0, 1) := by decide +kernel
theorem dc_W_law_1334 : decode bc_W_law 1334 = .ok (.iload_n 3, 1) := by decide +kernel
theorem dc_W_law_1335 : decode bc_W_law 1335 = .ok (.iconst 1, 1) := by decide +kernel
theorem dc_W_law_1336 : decode bc_W_law 1336 = .ok (.iadd, 1) := by decide +kernel
theorem dc_W_law_1337 : decode bc_W_law 1337 = .ok (.iaload, 1) := by decide +kernel
theorem dc_W_law_1338 : decode bc_W_law 1338 = .ok (.invokevirtual 130, 3) := by decide +kernel
theorem dc_W_law_1341 : decode bc_W_law 1341 = .ok (.aload_n 2, 1) := by decide +kernel
theorem dc_W_law_1342 : decode bc_W_law 1342 = .ok (.aload_n 0, 1) := by decide +kernel
theorem dc_W_law_1343 : decode bc_W_law 1343 = .ok (.iload_n 3, 1) := by decide +kernel
theorem dc_W_law_1344 : decode bc_W_law 1344 = .ok (.iconst 1, 1) := by decide +kernel
theorem dc_W_law_1345 : decode bc_W_law 1345 = .ok (.iadd, 1) := by decide +kernel
theorem dc_W_law_1346 : decode bc_W_law 1346 = .ok (.iaload, 1) := by decide +kernel
theorem dc_W_law_1347 : decode bc_W_law 1347 = .ok (.invokevirtual 133, 3) := by decide +kernel
theorem dc_W_law_1350 : decode bc_W_law 1350 = .ok (.if_icmp .eq 5, 3) := by decide +kernel
theorem dc_W_law_1353 : decode bc_W_law 1353 = .ok (.iconst 0, 1) := by decide +kernel
theorem dc_W_law_1354 : decode bc_W_law 1354 = .ok (.ireturn, 1) := by decide +kernel
theorem dc_W_law_1355 : decode bc_W_law 1355 = .ok (.iinc 3 8, 3) := by decide +kernel
theorem dc_W_law_1358 : decode bc_W_law 1358 = .ok (.goto (-1340), 3) := by decide +kernel
theorem dc_W_law_1361 : decode bc_W_law 1361 = .ok (.iconst 1, 1) := by decide +kernel
theorem dc_W_law_1362 : decode bc_W_law 1362 = .ok (.ireturn, 1) := by decide +kernel
end
section
/-! numbers of the machine as Int -/
def jI (a : Int) : Int32 := Int32.ofInt a
def jL (a : Int) : Int64 := Int64.ofInt a
theorem jI_T {a : Int} (h1 : -2147483648 ≤ a) (h2 : a ≤ 2147483647) : (jI a).toInt = a := Int32.toInt_ofInt_of_le (by omega) (by omega)
theorem jL_T {a : Int} (h1 : -9223372036854775808 ≤ a) (h2 : a ≤ 9223372036854775807) : (jL a).toInt = a := Int64.toInt_ofInt_of_le (by omega) (by omega)
theorem jI_S (x : Int32) : jI x.toInt = x := Int32.ofInt_toInt x
theorem jL_S (x : Int64) : jL x.toInt = x := Int64.ofInt_toInt x
theorem jI_R (x : Int32) : ∃ a : Int, -2147483648 ≤ a ∧ a ≤ 2147483647 ∧ x = jI a := ⟨x.toInt, by have := Int32.le_toInt x; omega, by have := Int32.toInt_lt x; omega, (jI_S x).symm⟩
theorem jL_R (x : Int64) : ∃ a : Int, -9223372036854775808 ≤ a ∧ a ≤ 9223372036854775807 ∧ x = jL a := ⟨x.toInt, by have := Int64.le_toInt x; omega, by have := Int64.toInt_lt x; omega, (jL_S x).symm⟩
theorem jI_add (a b : Int) : jI a + jI b = jI (a + b) := (Int32.ofInt_add a b).symm
theorem jI_sub (a b : Int) : jI a - jI b = jI (a - b) := (Int32.ofInt_sub a b).symm
theorem jI_mul (a b : Int) : jI a * jI b = jI (a * b) := (Int32.ofInt_mul a b).symm
theorem jI_neg (a : Int) : - jI a = jI (-a) := (Int32.ofInt_neg a).symm
theorem jL_add (a b : Int) : jL a + jL b = jL (a + b) := (Int64.ofInt_add a b).symm
theorem jL_sub (a b : Int) : jL a - jL b = jL (a - b) := (Int64.ofInt_sub a b).symm
theorem jL_mul (a b : Int) : jL a * jL b = jL (a * b) := (Int64.ofInt_mul a b).symm
theorem jL_neg (a : Int) : - jL a = jL (-a) := (Int64.ofInt_neg a).symm
theorem jI_le {a b : Int} (h1 : -2147483648 ≤ a) (h2 : a ≤ 2147483647) (h3 : -2147483648 ≤ b) (h4 : b ≤ 2147483647) : jI a ≤ jI b ↔ a ≤ b := by rw [Int32.le_iff_toInt_le, jI_T h1 h2, jI_T h3 h4]
theorem jI_lt {a b : Int} (h1 : -2147483648 ≤ a) (h2 : a ≤ 2147483647) (h3 : -2147483648 ≤ b) (h4 : b ≤ 2147483647) : jI a < jI b ↔ a < b := by rw [Int32.lt_iff_toInt_lt, jI_T h1 h2, jI_T h3 h4]
theorem jI_eq {a b : Int} (h1 : -2147483648 ≤ a) (h2 : a ≤ 2147483647) (h3 : -2147483648 ≤ b) (h4 : b ≤ 2147483647) : jI a = jI b ↔ a = b := by rw [← Int32.toInt_inj, jI_T h1 h2, jI_T h3 h4]
theorem jL_le {a b : Int} (h1 : -9223372036854775808 ≤ a) (h2 : a ≤ 9223372036854775807) (h3 : -9223372036854775808 ≤ b) (h4 : b ≤ 9223372036854775807) : jL a ≤ jL b ↔ a ≤ b := by rw [Int64.le_iff_toInt_le, jL_T h1 h2, jL_T h3 h4]
theorem jL_lt {a b : Int} (h1 : -9223372036854775808 ≤ a) (h2 : a ≤ 9223372036854775807) (h3 : -9223372036854775808 ≤ b) (h4 : b ≤ 9223372036854775807) : jL a < jL b ↔ a < b := by rw [Int64.lt_iff_toInt_lt, jL_T h1 h2, jL_T h3 h4]
theorem jL_eq {a b : Int} (h1 : -9223372036854775808 ≤ a) (h2 : a ≤ 9223372036854775807) (h3 : -9223372036854775808 ≤ b) (h4 : b ≤ 9223372036854775807) : jL a = jL b ↔ a = b := by rw [← Int64.toInt_inj, jL_T h1 h2, jL_T h3 h4]
theorem jI_0 : jI 0 = 0 := by decide +kernel
theorem jI_1 : jI 1 = 1 := by decide +kernel
theorem jL_0 : jL 0 = 0 := by decide +kernel
theorem jI_l {a : Int} (h1 : -2147483648 ≤ a) (h2 : a ≤ 2147483647) : (jI a).toInt64 = jL a := by
  rw [← Int64.toInt_inj, Int32.toInt_toInt64, jI_T h1 h2, jL_T (by omega) (by omega)]
theorem jL_div {a b : Int} (h1 : 0 ≤ a) (h2 : a ≤ 9223372036854775807) (h3 : 0 < b) (h4 : b ≤ 9223372036854775807) : jL a / jL b = jL (a / b) := by
  have hq : 0 ≤ a / b := Int.ediv_nonneg h1 (by omega)
  have hq2 : a / b ≤ a := Int.ediv_le_self b h1
  rw [← Int64.toInt_inj, Int64.toInt_div_of_ne_right _ _ (fun h => by
    have h9 : (jL b).toInt = -1 := by rw [h]; decide +kernel
    rw [jL_T (by omega) h4] at h9
    omega), jL_T (by omega) h2, jL_T (by omega) h4, jL_T (by omega) (by omega), Int.tdiv_eq_ediv_of_nonneg h1]
theorem jL_rem {a b : Int} (h1 : 0 ≤ a) (h2 : a ≤ 9223372036854775807) (h3 : 0 < b) (h4 : b ≤ 9223372036854775807) : jL a - jL a / jL b * jL b = jL (a % b) := by
  rw [jL_div h1 h2 h3 h4, jL_mul, jL_sub]
  congr 1
  have := Int.mul_ediv_add_emod a b
  rw [Int.mul_comm] at this
  omega
theorem jL_ne0 {b : Int} (h1 : b ≠ 0) (h3 : -9223372036854775808 ≤ b) (h4 : b ≤ 9223372036854775807) : ¬ jL b = 0 := by
  rw [← jL_0, jL_eq h3 h4 (by omega) (by omega)]
  exact h1
theorem jI_c {a : Int} (h1 : 0 ≤ a) (h2 : a ≤ 2147483647) : (jI a).toNatClampNeg = a.toNat := Int32.toNatClampNeg_ofInt_of_le (by omega) (by omega)
theorem jI_in {a : Int} {n : Nat} (h1 : 0 ≤ a) (h2 : a < n) (h3 : n ≤ 2147483647) : vp_in (jI a) n := by
  rw [vp_in_iff, jI_T (by omega) (by omega)]
  exact ⟨h1, h2⟩
/-- a boolean's number -/
noncomputable def jB (P : Prop) : Int := @ite _ P (Classical.propDecidable P) 1 0
theorem jB_t {P : Prop} (h : P) : jB P = 1 := by unfold jB; exact if_pos h
theorem jB_f {P : Prop} (h : ¬ P) : jB P = 0 := by unfold jB; exact if_neg h
theorem jB_c {P P' : Prop} (h : P ↔ P') : jB P = jB P' := by
  by_cases hp : P
  · rw [jB_t hp, jB_t (h.mp hp)]
  · rw [jB_f hp, jB_f (fun q => hp (h.mpr q))]
theorem jB_r (P : Prop) : 0 ≤ jB P ∧ jB P ≤ 1 := by
  by_cases hp : P
  · rw [jB_t hp]; omega
  · rw [jB_f hp]; omega
/-! worlds by kind and index -/
abbrev cx_W : Type := Nat → Nat → Option (Nat × va_E)
def cx_P (D : va_G) (cl : List vw_C) (w : cx_W) (H : Heap) : Prop := ∀ (k i : Nat) (q : Nat × va_E), w k i = some q → va_at D cl q H
def cx_D (A : Nat → Prop) (w : cx_W) : Prop := (∀ (k i k' i' : Nat) (x y : Nat × va_E), w k i = some x → w k' i' = some y → x.1 = y.1 → k = k' ∧ i = i') ∧ ∀ (k i : Nat) (x : Nat × va_E), w k i = some x → A x.1
def cx_up (w : cx_W) (k i : Nat) (q : Nat × va_E) : cx_W := fun k' i' => if k' = k ∧ i' = i then some q else w k' i'
/-- the cells of a world, and those that come from sz on -/
def cx_A (w : cx_W) (sz : Nat) : Nat → Prop := fun q => (∃ (k i : Nat) (e : va_E), w k i = some (q, e)) ∨ sz ≤ q
theorem cx_up_s (w : cx_W) (k i : Nat) (q : Nat × va_E) : cx_up w k i q k i = some q := if_pos ⟨rfl, rfl⟩
theorem cx_up_n (w : cx_W) {k i k' i' : Nat} (q : Nat × va_E) (h : ¬ (k' = k ∧ i' = i)) : cx_up w k i q k' i' = w k' i' := if_neg h
theorem cx_P.one {D : va_G} {cl : List vw_C} {w : cx_W} {H : Heap} (h : cx_P D cl w H) {k i : Nat} {q : Nat × va_E} (he : w k i = some q) : va_P D cl [q] H := by
  intro j x hx
  have hz : j < 1 := (List.getElem?_eq_some_iff.mp hx).1
  rw [show j = 0 by omega] at hx
  cases hx
  exact h k i q he
theorem cx_P.set {D : va_G} {cl : List vw_C} {A : Nat → Prop} {w : cx_W} {H H1 : Heap} {k i a : Nat} {e0 e : va_E} (h : cx_P D cl w H) (hD : cx_D A w) (he : w k i = some (a, e0)) (ha : va_at D cl (a, e) H1) (oq : ∀ q : Nat, q ≠ a → H1[q]? = H[q]?) : cx_P D cl (cx_up w k i (a, e)) H1 := by
  intro k' i' q hq
  by_cases hk : k' = k ∧ i' = i
  · obtain ⟨rfl, rfl⟩ := hk
    rw [cx_up_s] at hq
    cases hq
    exact ha
  · rw [cx_up_n w _ hk] at hq
    exact (h k' i' q hq).kept (oq q.1 (fun z => hk (hD.1 k' i' k i q (a, e0) hq he z)))
theorem cx_D.set {A : Nat → Prop} {w : cx_W} {k i a : Nat} {e0 e : va_E} (hD : cx_D A w) (he : w k i = some (a, e0)) : cx_D A (cx_up w k i (a, e)) := by
  have key : ∀ (k' i' : Nat) (q : Nat × va_E), cx_up w k i (a, e) k' i' = some q → ∃ q0, w k' i' = some q0 ∧ q0.1 = q.1 := by
    intro k' i' q hq
    by_cases hk : k' = k ∧ i' = i
    · obtain ⟨rfl, rfl⟩ := hk
      rw [cx_up_s] at hq
      cases hq
      exact ⟨_, he, rfl⟩
    · rw [cx_up_n w _ hk] at hq
      exact ⟨q, hq, rfl⟩
  refine ⟨fun k1 i1 k2 i2 x y hx hy hxy => ?_, fun k1 i1 x hx => ?_⟩
  · obtain ⟨x0, h1, h2⟩ := key k1 i1 x hx
    obtain ⟨y0, h3, h4⟩ := key k2 i2 y hy
    exact hD.1 k1 i1 k2 i2 x0 y0 h1 h3 (h2.trans (hxy.trans h4.symm))
  · obtain ⟨x0, h1, h2⟩ := key k1 i1 x hx
    rw [← h2]
    exact hD.2 k1 i1 x0 h1
theorem cx_D.push {A : Nat → Prop} {w : cx_W} {k i a : Nat} {e : va_E} {D : va_G} {cl : List vw_C} {H : Heap} (hD : cx_D A w) (hP : cx_P D cl w H) (ha : a = H.size) (hA : A a) : cx_D A (cx_up w k i (a, e)) := by
  have key : ∀ (k' i' : Nat) (q : Nat × va_E), cx_up w k i (a, e) k' i' = some q → (w k' i' = some q ∧ q.1 < a) ∨ (k' = k ∧ i' = i ∧ q.1 = a) := by
    intro k' i' q hq
    by_cases hk : k' = k ∧ i' = i
    · obtain ⟨rfl, rfl⟩ := hk
      rw [cx_up_s] at hq
      cases hq
      exact Or.inr ⟨rfl, rfl, rfl⟩
    · rw [cx_up_n w _ hk] at hq
      exact Or.inl ⟨hq, by rw [ha]; exact (hP k' i' q hq).lt⟩
  refine ⟨fun k1 i1 k2 i2 x y hx hy hxy => ?_, fun k1 i1 x hx => ?_⟩
  · rcases key k1 i1 x hx with ⟨h1, l1⟩ | ⟨h1, h2, l1⟩ <;> rcases key k2 i2 y hy with ⟨h3, l2⟩ | ⟨h3, h4, l2⟩
    · exact hD.1 k1 i1 k2 i2 x y h1 h3 hxy
    · omega
    · omega
    · exact ⟨h1.trans h3.symm, h2.trans h4.symm⟩
  · rcases key k1 i1 x hx with ⟨h1, -⟩ | ⟨-, -, h1⟩
    · exact hD.2 k1 i1 x h1
    · rw [h1]; exact hA
/-- the two words that are not among the good ones: the rows of Stock, and the call of a nest mate's own method -/
def cx_E (U : State) : Prop := va_AO "CatchShares$Stock" U ∧ va_Nw cx_nl U
theorem cx_E.warm {s U : State} (hW : s.WarmedH U.vm) (h : cx_E s) : cx_E U := ⟨va_AO.moved hW.alike h.1, va_Nw.warmM hW h.2⟩
theorem cx_E.same {s U : State} (hv : s.vm = U.vm) (h : cx_E s) : cx_E U := ⟨va_AO.moved (by rw [hv]; exact Vm.Alike.refl _) h.1, va_Nw.same rfl hv h.2⟩
/-- the tables' numbers of classes and slots; the array classes of int, long, boolean and Stock -/
abbrev cx_U : Type := va_G × (Nat → ClassId)
abbrev cx_ty (E : Nat → ClassId) : List (ClassId × FieldType) := [(E 0, .int), (E 1, .long), (E 2, .boolean), (E 3, .object "CatchShares$Stock")]
/-- all that a walk knows of its world -/
def cx_B (u : cx_U) (A : Nat → Prop) (w : cx_W) (s : State) (H : Heap) (locs : List Loc) : Prop := va_K u.1 vw_cl (cx_ty u.2) s ∧ cx_P u.1 vw_cl w H ∧ cx_D A w ∧ va_S A s.heap H locs ∧ (∀ q, s.heap.size ≤ q → A q) ∧ cx_E s
/-- a world as a contract sees it -/
def cx_V (u : cx_U) (w : cx_W) (U : State) : Prop := va_K u.1 vw_cl (cx_ty u.2) U ∧ cx_P u.1 vw_cl w U.heap ∧ cx_D (fun _ => True) w ∧ cx_E U
theorem cx_V.calling {u : cx_U} {w : cx_W} {U : State} (g : JFrame) (mk : MethodId) (a : Array Value) (h : cx_V u w U) : cx_V u w (U.calling g mk a) := ⟨va_K.moved (u := U) (U := U.calling g mk a) (Vm.Alike.refl U.vm) h.1, h.2.1, h.2.2.1, h.2.2.2.same (U := U.calling g mk a) rfl⟩
theorem cx_D.weaken {A A' : Nat → Prop} {w : cx_W} (h : cx_D A w) (hA : ∀ (k i : Nat) (x : Nat × va_E), w k i = some x → A x.1 → A' x.1) : cx_D A' w := ⟨h.1, fun k i x hx => hA k i x hx (h.2 k i x hx)⟩
/-- what the words say of a method that is called: of an object, static, a constructor -/
def cx_hd (y : MethodName) (n : Nat) : Prop := y.cls ≠ "java/lang/invoke/MethodHandle" ∧ y.cls ≠ "java/lang/invoke/VarHandle" ∧ (parseMethodDescriptor y.desc).map (fun d => d.parameters.length) = some n
def cx_KV (G : List Cond) (y : MethodName) (cc : ByteArray) (maxL : Nat) (ret : Option FieldType) (n : Nat) : Prop := Cond.instanceMethod y ∈ G ∧ Cond.selects y.cls y y ∈ G ∧ Cond.initialized y.cls ∈ G ∧ Cond.code y cc maxL ret ∈ G ∧ cx_hd y n
def cx_KS (G : List Cond) (y : MethodName) (cc : ByteArray) (maxL : Nat) (ret : Option FieldType) (n : Nat) : Prop := Cond.static y ∈ G ∧ Cond.initialized y.cls ∈ G ∧ Cond.code y cc maxL ret ∈ G ∧ cx_hd y n
def cx_KI (G : List Cond) (y : MethodName) (cc : ByteArray) (maxL : Nat) (n : Nat) : Prop := y.name = "<init>" ∧ Cond.instanceMethod y ∈ G ∧ Cond.initialized y.cls ∈ G ∧ Cond.code y cc maxL none ∈ G ∧ cx_hd y n
/-- words of one list among another's, by their places -/
theorem cx_gr {big : List Cond} (ws : List Cond) (ps : List Nat) (hp : ps.filterMap (fun i => big[i]?) = ws) (h : ws.all goodWord = true) : GoodIn big ws := by
  intro x hx
  have h1 := List.all_eq_true.mp h x hx
  rw [← hp] at hx
  obtain ⟨i, -, hi⟩ := List.mem_filterMap.mp hx
  exact ⟨List.mem_of_getElem? hi, good_of_word h1⟩
end
section
def gW_0 : List Cond := [.selects "CatchShares" mn_C_findStock mn_C_findStock, .selects "CatchShares" mn_C_isHolder mn_C_isHolder, .selects "CatchShares$Stock" mn_S_rankByRest mn_S_rankByRest, .selects "CatchShares$Stock" mn_S_restOf mn_S_restOf, .selects "CatchShares" mn_C_carryOver mn_C_carryOver, .selects "CatchShares" mn_C_carriedOf mn_C_carriedOf, .selects "CatchShares" mn_C_overOf mn_C_overOf, .selects "CatchShares" mn_C_leftInAll mn_C_leftInAll, .selects "CatchShares" mn_C_leftOn mn_C_leftOn, .selects "CatchShares" mn_C_holdOf mn_C_holdOf, .selects "CatchShares$Owners" mn_O_lengthenWays mn_O_lengthenWays, .selects "CatchShares" mn_C_isAboveCap mn_C_isAboveCap, .selects "CatchShares" mn_C_isScarcer mn_C_isScarcer, .selects "CatchSharesModel" mn_M_isStock mn_M_isStock, .selects "CatchSharesModel" mn_M_isHolder mn_M_isHolder, .selects "CatchSharesModel" mn_M_allWeights mn_M_allWeights, .selects "CatchSharesModel" mn_M_carriedOf mn_M_carriedOf, .selects "CatchSharesModel" mn_M_overOf mn_M_overOf, .selects "CatchSharesModel" mn_M_leftOf mn_M_leftOf, .selects "CatchSharesModel" mn_M_leftOn mn_M_leftOn, .selects "CatchSharesModel" mn_M_allShares mn_M_allShares, .selects "CatchSharesModel" mn_M_reaches mn_M_reaches, .selects "CatchSharesModel" mn_M_findHolds mn_M_findHolds, .selects "CatchSharesModel" mn_M_isAbove mn_M_isAbove, .selects "CatchSharesModel" mn_M_allLandings mn_M_allLandings, .initialized "CatchSharesLaw", .initialized "CatchShares", .initialized "CatchShares$Landings", .initialized "CatchShares$Owners", .initialized "CatchSharesModel", .initialized "CatchShares$Stock", .initialized "java/lang/Math", .initialized "java/lang/System", .classLink "CatchSharesLaw" (7) "CatchShares", .instantiable "CatchShares" (9), .methodLink "CatchSharesLaw" (9) mn_C_init, .instanceMethod mn_C_init, .code mn_C_init prog_1_method_1_code (1) none, .methodLink "CatchShares" (1) objectInit, .instanceMethod objectInit, .code objectInit object_method_1_code (1) none, .classLink "CatchShares" (9) "CatchShares$Stock", .classLink "CatchShares" (22) "CatchShares$Landings", .instantiable "CatchShares$Landings" (5), .methodLink "CatchShares" (24) mn_L_init, .instanceMethod mn_L_init, .code mn_L_init prog_2_method_1_code (1) none, .methodLink "CatchShares$Landings" (3) objectInit, .fieldLink "CatchShares$Landings" (9) "CatchShares$Landings" "stockNumbers" "[I", .fieldLink "CatchShares$Landings" (15) "CatchShares$Landings" "holderNumbers" "[I", .fieldLink "CatchShares$Landings" (18) "CatchShares$Landings" "caught" "[J", .fieldLink "CatchShares$Landings" (22) "CatchShares$Landings" "toldDays" "[I", .fieldLink "CatchShares$Landings" (25) "CatchShares$Landings" "count" "I", .laysFinal "CatchShares$Landings" "CatchShares$Landings" "stockNumbers" "[I", .laysFinal "CatchShares$Landings" "CatchShares$Landings" "holderNumbers" "[I", .laysFinal "CatchShares$Landings" "CatchShares$Landings" "caught" "[J", .laysFinal "CatchShares$Landings" "CatchShares$Landings" "toldDays" "[I", .lays "CatchShares$Landings" "CatchShares$Landings" "count" "I", .arrayClass FieldType.int, .arrayClass FieldType.long]
set_option maxRecDepth 100000 in
theorem gW_0_in : GoodIn lw_tbl gW_0 := cx_gr gW_0 [0, 1, 2, 3, 4, 5, 6, 7, 8, 9, 10, 11, 12, 13, 14, 15, 16, 17, 18, 19, 20, 21, 22, 23, 24, 25, 26, 27, 28, 29, 30, 31, 32, 33, 34, 35, 36, 37, 38, 39, 40, 41, 43, 44, 45, 46, 47, 48, 49, 50, 51, 52, 53, 54, 56, 58, 60, 62, 65, 66] rfl (by decide +kernel)
def gW_1 : List Cond := [.classLink "CatchShares" (29) "CatchShares$Owners", .instantiable "CatchShares$Owners" (4), .methodLink "CatchShares" (31) mn_O_init, .instanceMethod mn_O_init, .code mn_O_init prog_3_method_1_code (1) none, .methodLink "CatchShares$Owners" (3) objectInit, .fieldLink "CatchShares$Owners" (9) "CatchShares$Owners" "parts" "[I", .fieldLink "CatchShares$Owners" (15) "CatchShares$Owners" "ways" "[J", .fieldLink "CatchShares$Owners" (19) "CatchShares$Owners" "longerWays" "[J", .fieldLink "CatchShares$Owners" (22) "CatchShares$Owners" "holds" "[J", .laysFinal "CatchShares$Owners" "CatchShares$Owners" "parts" "[I", .laysFinal "CatchShares$Owners" "CatchShares$Owners" "ways" "[J", .laysFinal "CatchShares$Owners" "CatchShares$Owners" "longerWays" "[J", .laysFinal "CatchShares$Owners" "CatchShares$Owners" "holds" "[J", .fieldLink "CatchShares" (11) "CatchShares" "stocks" "[LCatchShares$Stock;", .fieldLink "CatchShares" (43) "CatchShares" "stockCount" "I", .fieldLink "CatchShares" (15) "CatchShares" "ownerOf" "[I", .fieldLink "CatchShares" (19) "CatchShares" "poolOf" "[I", .fieldLink "CatchShares" (55) "CatchShares" "holderCount" "I", .fieldLink "CatchShares" (25) "CatchShares" "landings" "LCatchShares$Landings;", .fieldLink "CatchShares" (32) "CatchShares" "owners" "LCatchShares$Owners;", .fieldLink "CatchShares" (36) "CatchShares" "penaltyAbove" "I", .fieldLink "CatchShares" (40) "CatchShares" "penaltyBelow" "I", .laysFinal "CatchShares" "CatchShares" "stocks" "[LCatchShares$Stock;", .lays "CatchShares" "CatchShares" "stockCount" "I", .laysFinal "CatchShares" "CatchShares" "ownerOf" "[I", .laysFinal "CatchShares" "CatchShares" "poolOf" "[I", .lays "CatchShares" "CatchShares" "holderCount" "I", .laysFinal "CatchShares" "CatchShares" "landings" "LCatchShares$Landings;", .laysFinal "CatchShares" "CatchShares" "owners" "LCatchShares$Owners;", .lays "CatchShares" "CatchShares" "penaltyAbove" "I", .lays "CatchShares" "CatchShares" "penaltyBelow" "I", .methodLink "CatchSharesLaw" (15) mn_C_stock, .instanceMethod mn_C_stock, .selects "CatchShares" mn_C_stock mn_C_stock, .code mn_C_stock prog_1_method_2_code (4) (Option.some FieldType.int), .constantLong "CatchShares" (46) (1000000000), .methodLink "CatchShares" (48) mn_C_isWithin, .static mn_C_isWithin, .code mn_C_isWithin prog_1_method_28_code (6) (Option.some FieldType.boolean), .instantiable "CatchShares$Stock" (11), .methodLink "CatchShares" (52) mn_S_init, .instanceMethod mn_S_init, .code mn_S_init prog_4_method_1_code (4) none, .methodLink "CatchShares$Stock" (3) objectInit, .fieldLink "CatchShares$Stock" (9) "CatchShares$Stock" "number" "I", .fieldLink "CatchShares" (167) "CatchShares$Stock" "number" "I", .fieldLink "CatchShares$Stock" (15) "CatchShares$Stock" "allowed" "J", .fieldLink "CatchShares" (79) "CatchShares$Stock" "allowed" "J", .fieldLink "CatchShares$Stock" (19) "CatchShares$Stock" "weights" "[J", .fieldLink "CatchShares" (75) "CatchShares$Stock" "weights" "[J", .fieldLink "CatchShares$Stock" (23) "CatchShares$Stock" "shares" "[J", .fieldLink "CatchShares" (103) "CatchShares$Stock" "shares" "[J", .fieldLink "CatchShares" (83) "CatchShares$Stock" "setAside" "J", .fieldLink "CatchShares$Stock" (40) "CatchShares$Stock" "setAside" "J", .fieldLink "CatchShares" (69) "CatchShares$Stock" "parted" "Z", .fieldLink "CatchShares$Stock" (26) "CatchShares$Stock" "followed" "I", .fieldLink "CatchShares" (86) "CatchShares$Stock" "followed" "I", .fieldLink "CatchShares$Stock" (29) "CatchShares$Stock" "capHundredths" "I", .fieldLink "CatchShares" (152) "CatchShares$Stock" "capHundredths" "I"]
set_option maxRecDepth 100000 in
theorem gW_1_in : GoodIn lw_tbl gW_1 := cx_gr gW_1 [67, 68, 69, 70, 71, 72, 73, 74, 75, 76, 77, 79, 81, 83, 86, 87, 88, 89, 90, 91, 92, 93, 94, 95, 97, 99, 101, 103, 105, 107, 109, 111, 114, 115, 116, 117, 118, 119, 120, 121, 122, 123, 124, 125, 126, 127, 128, 129, 130, 131, 132, 133, 134, 135, 136, 137, 138, 139, 140, 141] rfl (by decide +kernel)
def gW_2 : List Cond := [.fieldLink "CatchShares" (179) "CatchShares$Stock" "keptSeen" "J", .fieldLink "CatchShares" (182) "CatchShares$Stock" "thrownSeen" "J", .fieldLink "CatchShares$Stock" (47) "CatchShares$Stock" "dueShares" "J", .fieldLink "CatchShares" (189) "CatchShares$Stock" "dueShares" "J", .laysFinal "CatchShares$Stock" "CatchShares$Stock" "number" "I", .laysFinal "CatchShares$Stock" "CatchShares$Stock" "allowed" "J", .laysFinal "CatchShares$Stock" "CatchShares$Stock" "weights" "[J", .laysFinal "CatchShares$Stock" "CatchShares$Stock" "shares" "[J", .lays "CatchShares$Stock" "CatchShares$Stock" "setAside" "J", .lays "CatchShares$Stock" "CatchShares$Stock" "parted" "Z", .lays "CatchShares$Stock" "CatchShares$Stock" "followed" "I", .lays "CatchShares$Stock" "CatchShares$Stock" "capHundredths" "I", .lays "CatchShares$Stock" "CatchShares$Stock" "keptSeen" "J", .lays "CatchShares$Stock" "CatchShares$Stock" "thrownSeen" "J", .lays "CatchShares$Stock" "CatchShares$Stock" "dueShares" "J", .methodLink "CatchSharesLaw" (20) mn_C_holder, .instanceMethod mn_C_holder, .selects "CatchShares" mn_C_holder mn_C_holder, .code mn_C_holder prog_1_method_3_code (3) (Option.some FieldType.int), .methodLink "CatchShares" (58) mn_C_isOwner, .static mn_C_isOwner, .code mn_C_isOwner prog_1_method_31_code (1) (Option.some FieldType.boolean), .methodLink "CatchSharesLaw" (25) mn_C_weight, .instanceMethod mn_C_weight, .selects "CatchShares" mn_C_weight mn_C_weight, .code mn_C_weight prog_1_method_4_code (6) (Option.some FieldType.boolean), .methodLink "CatchShares" (62) mn_C_findStock, .instanceMethod mn_C_findStock, .code mn_C_findStock prog_1_method_34_code (2) (Option.some (FieldType.object "CatchShares$Stock")), .methodLink "CatchShares" (66) mn_C_isHolder, .instanceMethod mn_C_isHolder, .code mn_C_isHolder prog_1_method_33_code (2) (Option.some FieldType.boolean), .constantLong "CatchShares" (73) (1000000), .methodLink "CatchSharesLaw" (30) mn_C_aside, .instanceMethod mn_C_aside, .selects "CatchShares" mn_C_aside mn_C_aside, .code mn_C_aside prog_1_method_5_code (5) (Option.some FieldType.boolean), .methodLink "CatchSharesLaw" (35) mn_C_follows, .instanceMethod mn_C_follows, .selects "CatchShares" mn_C_follows mn_C_follows, .code mn_C_follows prog_1_method_6_code (5) (Option.some FieldType.boolean), .methodLink "CatchSharesLaw" (40) mn_C_part, .instanceMethod mn_C_part, .selects "CatchShares" mn_C_part mn_C_part, .code mn_C_part prog_1_method_7_code (4) (Option.some FieldType.int), .methodLink "CatchShares" (89) mn_S_shareOut, .instanceMethod mn_S_shareOut, .selects "CatchShares$Stock" mn_S_shareOut mn_S_shareOut, .code mn_S_shareOut prog_4_method_6_code (8) (Option.some FieldType.boolean), .methodLink "CatchShares$Stock" (36) mn_S_allWeights, .instanceMethod mn_S_allWeights, .selects "CatchShares$Stock" mn_S_allWeights mn_S_allWeights, .code mn_S_allWeights prog_4_method_2_code (1) (Option.some FieldType.long), .methodLink "CatchShares$Stock" (32) mn_S_sumOf, .static mn_S_sumOf, .code mn_S_sumOf prog_4_method_4_code (4) (Option.some FieldType.long), .methodLink "CatchShares$Stock" (43) mn_S_rankByRest, .instanceMethod mn_S_rankByRest, .code mn_S_rankByRest prog_4_method_7_code (12) (Option.some FieldType.int), .methodLink "CatchShares$Stock" (50) mn_S_restOf]
set_option maxRecDepth 100000 in
theorem gW_2_in : GoodIn lw_tbl gW_2 := cx_gr gW_2 [142, 143, 144, 145, 146, 148, 150, 152, 154, 156, 158, 160, 162, 164, 166, 169, 170, 171, 172, 173, 174, 175, 176, 177, 178, 179, 180, 182, 183, 184, 186, 187, 188, 189, 190, 191, 192, 193, 194, 195, 196, 197, 198, 199, 200, 201, 202, 203, 204, 205, 206, 207, 208, 209, 210, 211, 212, 214, 215, 216] rfl (by decide +kernel)
def gW_3 : List Cond := [.instanceMethod mn_S_restOf, .code mn_S_restOf prog_4_method_8_code (6) (Option.some FieldType.long), .methodLink "CatchShares" (93) mn_C_carryOver, .instanceMethod mn_C_carryOver, .code mn_C_carryOver prog_1_method_39_code (4) none, .methodLink "CatchShares" (136) mn_C_carriedOf, .instanceMethod mn_C_carriedOf, .code mn_C_carriedOf prog_1_method_38_code (5) (Option.some FieldType.long), .methodLink "CatchShares" (133) mn_C_overOf, .instanceMethod mn_C_overOf, .code mn_C_overOf prog_1_method_37_code (3) (Option.some FieldType.long), .methodLink "CatchShares" (116) mn_C_leftInAll, .instanceMethod mn_C_leftInAll, .code mn_C_leftInAll prog_1_method_36_code (3) (Option.some FieldType.long), .constant "CatchShares" (198) (99999), .methodLink "CatchShares" (112) mn_C_leftOn, .instanceMethod mn_C_leftOn, .code mn_C_leftOn prog_1_method_35_code (4) (Option.some FieldType.long), .methodLink "CatchShares" (194) mn_L_toldUpTo, .instanceMethod mn_L_toldUpTo, .selects "CatchShares$Landings" mn_L_toldUpTo mn_L_toldUpTo, .code mn_L_toldUpTo prog_2_method_3_code (7) (Option.some FieldType.long), .methodLink "CatchShares" (170) Lib.MathLoose.max_long.x, .static Lib.MathLoose.max_long.x, .code Lib.MathLoose.max_long.x prog_7_method_66_code (4) (Option.some FieldType.long), .methodLink "CatchShares" (176) mn_C_dividedUp, .static mn_C_dividedUp, .code mn_C_dividedUp prog_1_method_30_code (4) (Option.some FieldType.long), .constantLong "CatchShares" (199) (10), .methodLink "CatchShares" (201) Lib.MathLoose.min_long.x, .static Lib.MathLoose.min_long.x, .code Lib.MathLoose.min_long.x prog_7_method_70_code (4) (Option.some FieldType.long), .methodLink "CatchShares" (204) mn_S_carryIn, .instanceMethod mn_S_carryIn, .selects "CatchShares$Stock" mn_S_carryIn mn_S_carryIn, .code mn_S_carryIn prog_4_method_9_code (6) none, .methodLink "CatchShares$Stock" (54) Lib.MathLoose.max_long.x, .methodLink "CatchShares" (97) mn_S_countShares, .instanceMethod mn_S_countShares, .selects "CatchShares$Stock" mn_S_countShares mn_S_countShares, .code mn_S_countShares prog_4_method_5_code (3) (Option.some FieldType.int), .methodLink "CatchSharesLaw" (44) mn_C_given, .instanceMethod mn_C_given, .selects "CatchShares" mn_C_given mn_C_given, .code mn_C_given prog_1_method_8_code (4) (Option.some FieldType.long), .constantLong "CatchShares" (101) (-1), .methodLink "CatchSharesLaw" (49) mn_C_land, .instanceMethod mn_C_land, .selects "CatchShares" mn_C_land mn_C_land, .code mn_C_land prog_1_method_9_code (8) (Option.some FieldType.boolean), .constantLong "CatchShares" (106) (99999), .methodLink "CatchShares" (108) mn_L_add, .instanceMethod mn_L_add, .selects "CatchShares$Landings" mn_L_add mn_L_add, .code mn_L_add prog_2_method_2_code (6) (Option.some FieldType.boolean), .methodLink "CatchSharesLaw" (54) mn_C_left, .instanceMethod mn_C_left, .selects "CatchShares" mn_C_left mn_C_left, .code mn_C_left prog_1_method_10_code (5) (Option.some FieldType.long), .methodLink "CatchSharesLaw" (59) mn_C_transfer]
set_option maxRecDepth 100000 in
theorem gW_3_in : GoodIn lw_tbl gW_3 := cx_gr gW_3 [218, 219, 220, 222, 223, 224, 226, 227, 228, 230, 231, 232, 234, 235, 236, 237, 239, 240, 241, 242, 243, 244, 245, 246, 247, 248, 249, 250, 251, 252, 253, 254, 255, 256, 257, 258, 259, 260, 261, 262, 263, 264, 265, 266, 267, 268, 269, 270, 271, 272, 273, 274, 275, 276, 277, 278, 279, 280, 281, 282] rfl (by decide +kernel)
def gW_4 : List Cond := [.instanceMethod mn_C_transfer, .selects "CatchShares" mn_C_transfer mn_C_transfer, .code mn_C_transfer prog_1_method_11_code (7) (Option.some FieldType.int), .methodLink "CatchSharesLaw" (64) mn_C_swap, .instanceMethod mn_C_swap, .selects "CatchShares" mn_C_swap mn_C_swap, .code mn_C_swap prog_1_method_12_code (14) (Option.some FieldType.int), .methodLink "CatchShares" (120) mn_C_isFraction, .static mn_C_isFraction, .code mn_C_isFraction prog_1_method_29_code (2) (Option.some FieldType.boolean), .constantLong "CatchShares" (192) (1000), .methodLink "CatchShares" (124) mn_S_allShares, .instanceMethod mn_S_allShares, .selects "CatchShares$Stock" mn_S_allShares mn_S_allShares, .code mn_S_allShares prog_4_method_3_code (1) (Option.some FieldType.long), .constantLong "CatchShares" (128) (2000000000), .methodLink "CatchShares" (130) mn_S_swapShare, .instanceMethod mn_S_swapShare, .selects "CatchShares$Stock" mn_S_swapShare mn_S_swapShare, .code mn_S_swapShare prog_4_method_10_code (4) none, .methodLink "CatchSharesLaw" (69) mn_C_over, .instanceMethod mn_C_over, .selects "CatchShares" mn_C_over mn_C_over, .code mn_C_over prog_1_method_13_code (4) (Option.some FieldType.long), .methodLink "CatchSharesLaw" (73) mn_C_carried, .instanceMethod mn_C_carried, .selects "CatchShares" mn_C_carried mn_C_carried, .code mn_C_carried prog_1_method_14_code (4) (Option.some FieldType.long), .methodLink "CatchSharesLaw" (77) mn_C_penalty, .instanceMethod mn_C_penalty, .selects "CatchShares" mn_C_penalty mn_C_penalty, .code mn_C_penalty prog_1_method_15_code (3) (Option.some FieldType.boolean), .methodLink "CatchSharesLaw" (81) mn_C_into, .instanceMethod mn_C_into, .selects "CatchShares" mn_C_into mn_C_into, .code mn_C_into prog_1_method_16_code (3) (Option.some FieldType.boolean), .methodLink "CatchShares" (139) mn_C_isPool, .static mn_C_isPool, .code mn_C_isPool prog_1_method_32_code (1) (Option.some FieldType.boolean), .methodLink "CatchSharesLaw" (85) mn_C_pooled, .instanceMethod mn_C_pooled, .selects "CatchShares" mn_C_pooled mn_C_pooled, .code mn_C_pooled prog_1_method_17_code (7) (Option.some FieldType.long), .methodLink "CatchSharesLaw" (89) mn_C_owns, .instanceMethod mn_C_owns, .selects "CatchShares" mn_C_owns mn_C_owns, .code mn_C_owns prog_1_method_18_code (4) (Option.some FieldType.boolean), .constantLong "CatchShares" (142) (100), .methodLink "CatchShares" (144) mn_C_holdOf, .instanceMethod mn_C_holdOf, .code mn_C_holdOf prog_1_method_40_code (3) (Option.some FieldType.long), .methodLink "CatchShares" (155) mn_O_findHolds, .instanceMethod mn_O_findHolds, .selects "CatchShares$Owners" mn_O_findHolds mn_O_findHolds, .code mn_O_findHolds prog_3_method_3_code (4) none, .constantLong "CatchShares$Owners" (25) (1000000000000000000), .methodLink "CatchShares$Owners" (27) mn_O_lengthenWays, .instanceMethod mn_O_lengthenWays, .code mn_O_lengthenWays prog_3_method_5_code (5) none, .constantLong "CatchShares$Owners" (34) (100)]
set_option maxRecDepth 100000 in
theorem gW_4_in : GoodIn lw_tbl gW_4 := cx_gr gW_4 [283, 284, 285, 286, 287, 288, 289, 290, 291, 292, 293, 294, 295, 296, 297, 298, 299, 300, 301, 302, 303, 304, 305, 306, 307, 308, 309, 310, 311, 312, 313, 314, 315, 316, 317, 318, 319, 320, 321, 322, 323, 324, 325, 326, 327, 328, 329, 330, 331, 333, 334, 335, 336, 337, 338, 339, 340, 342, 343, 344] rfl (by decide +kernel)
def gW_5 : List Cond := [.methodLink "CatchShares$Owners" (36) arraycopyName, .static arraycopyName, .native arraycopyName, .methodLink "CatchShares" (207) mn_O_found, .instanceMethod mn_O_found, .selects "CatchShares$Owners" mn_O_found mn_O_found, .code mn_O_found prog_3_method_4_code (2) (Option.some FieldType.long), .methodLink "CatchShares" (148) mn_O_setPart, .instanceMethod mn_O_setPart, .selects "CatchShares$Owners" mn_O_setPart mn_O_setPart, .code mn_O_setPart prog_3_method_2_code (6) (Option.some FieldType.boolean), .methodLink "CatchSharesLaw" (94) mn_C_hold, .instanceMethod mn_C_hold, .selects "CatchShares" mn_C_hold mn_C_hold, .code mn_C_hold prog_1_method_19_code (3) (Option.some FieldType.long), .methodLink "CatchSharesLaw" (98) mn_C_cap, .instanceMethod mn_C_cap, .selects "CatchShares" mn_C_cap mn_C_cap, .code mn_C_cap prog_1_method_20_code (4) (Option.some FieldType.boolean), .methodLink "CatchSharesLaw" (102) mn_C_capped, .instanceMethod mn_C_capped, .selects "CatchShares" mn_C_capped mn_C_capped, .code mn_C_capped prog_1_method_21_code (4) (Option.some FieldType.boolean), .methodLink "CatchShares" (159) mn_C_isAboveCap, .instanceMethod mn_C_isAboveCap, .code mn_C_isAboveCap prog_1_method_41_code (9) (Option.some FieldType.boolean), .methodLink "CatchShares" (210) mn_S_allWeights, .constantLong "CatchShares" (213) (10000000), .methodLink "CatchSharesLaw" (107) mn_C_choke, .instanceMethod mn_C_choke, .selects "CatchShares" mn_C_choke mn_C_choke, .code mn_C_choke prog_1_method_22_code (5) (Option.some FieldType.int), .methodLink "CatchShares" (163) mn_C_isScarcer, .instanceMethod mn_C_isScarcer, .code mn_C_isScarcer prog_1_method_42_code (16) (Option.some FieldType.boolean), .methodLink "CatchShares" (215) mn_J_floorDiv, .static mn_J_floorDiv, .code mn_J_floorDiv prog_7_method_49_code (6) (Option.some FieldType.long), .methodLink "CatchShares" (218) mn_J_floorMod, .static mn_J_floorMod, .code mn_J_floorMod prog_7_method_52_code (6) (Option.some FieldType.long), .methodLink "CatchSharesLaw" (111) mn_C_closes, .instanceMethod mn_C_closes, .selects "CatchShares" mn_C_closes mn_C_closes, .code mn_C_closes prog_1_method_23_code (8) (Option.some FieldType.long), .methodLink "CatchSharesLaw" (116) mn_C_seen, .instanceMethod mn_C_seen, .selects "CatchShares" mn_C_seen mn_C_seen, .code mn_C_seen prog_1_method_24_code (7) (Option.some FieldType.boolean), .methodLink "CatchSharesLaw" (121) mn_C_discard, .instanceMethod mn_C_discard, .selects "CatchShares" mn_C_discard mn_C_discard, .code mn_C_discard prog_1_method_25_code (3) (Option.some FieldType.long), .methodLink "CatchShares" (185) mn_L_ofStock, .instanceMethod mn_L_ofStock, .selects "CatchShares$Landings" mn_L_ofStock mn_L_ofStock, .code mn_L_ofStock prog_2_method_4_code (5) (Option.some FieldType.long), .methodLink "CatchSharesLaw" (126) mn_C_told, .instanceMethod mn_C_told, .selects "CatchShares" mn_C_told mn_C_told]
set_option maxRecDepth 100000 in
theorem gW_5_in : GoodIn lw_tbl gW_5 := cx_gr gW_5 [345, 346, 347, 348, 349, 350, 351, 353, 354, 355, 356, 357, 358, 359, 360, 361, 362, 363, 364, 365, 366, 367, 368, 369, 371, 372, 373, 374, 375, 376, 377, 378, 379, 381, 382, 383, 384, 385, 386, 387, 388, 389, 390, 391, 392, 393, 394, 395, 396, 397, 398, 399, 400, 401, 402, 403, 404, 405, 406, 407] rfl (by decide +kernel)
def gW_6 : List Cond := [.code mn_C_told prog_1_method_26_code (4) (Option.some FieldType.long), .methodLink "CatchSharesLaw" (130) mn_C_sums, .instanceMethod mn_C_sums, .selects "CatchShares" mn_C_sums mn_C_sums, .code mn_C_sums prog_1_method_27_code (3) (Option.some FieldType.boolean), .classLink "CatchSharesLaw" (10) "CatchSharesModel", .instantiable "CatchSharesModel" (25), .methodLink "CatchSharesLaw" (12) mn_M_init, .instanceMethod mn_M_init, .code mn_M_init prog_6_method_1_code (1) none, .methodLink "CatchSharesModel" (1) objectInit, .fieldLink "CatchSharesModel" (79) "CatchSharesModel" "stocks" "I", .fieldLink "CatchSharesModel" (7) "CatchSharesModel" "allowed" "[J", .fieldLink "CatchSharesModel" (13) "CatchSharesModel" "aside" "[J", .fieldLink "CatchSharesModel" (16) "CatchSharesModel" "follows" "[I", .fieldLink "CatchSharesModel" (20) "CatchSharesModel" "isParted" "[Z", .fieldLink "CatchSharesModel" (24) "CatchSharesModel" "caps" "[I", .fieldLink "CatchSharesModel" (27) "CatchSharesModel" "extra" "[J", .fieldLink "CatchSharesModel" (30) "CatchSharesModel" "kept" "[J", .fieldLink "CatchSharesModel" (33) "CatchSharesModel" "thrownBack" "[J", .fieldLink "CatchSharesModel" (86) "CatchSharesModel" "holders" "I", .fieldLink "CatchSharesModel" (36) "CatchSharesModel" "owners" "[I", .fieldLink "CatchSharesModel" (39) "CatchSharesModel" "pools" "[I", .fieldLink "CatchSharesModel" (42) "CatchSharesModel" "weights" "[J", .fieldLink "CatchSharesModel" (45) "CatchSharesModel" "shares" "[J", .fieldLink "CatchSharesModel" (48) "CatchSharesModel" "rests" "[J", .fieldLink "CatchSharesModel" (115) "CatchSharesModel" "landings" "I", .fieldLink "CatchSharesModel" (51) "CatchSharesModel" "landedWhere" "[I", .fieldLink "CatchSharesModel" (54) "CatchSharesModel" "landed" "[J", .fieldLink "CatchSharesModel" (57) "CatchSharesModel" "toldOn" "[I", .fieldLink "CatchSharesModel" (60) "CatchSharesModel" "penaltyAbove" "I", .fieldLink "CatchSharesModel" (64) "CatchSharesModel" "penaltyBelow" "I", .fieldLink "CatchSharesModel" (67) "CatchSharesModel" "own" "[I", .fieldLink "CatchSharesModel" (70) "CatchSharesModel" "holds" "[J", .fieldLink "CatchSharesModel" (73) "CatchSharesModel" "next" "[J", .fieldLink "CatchSharesModel" (76) "CatchSharesModel" "all" "[J", .lays "CatchSharesModel" "CatchSharesModel" "stocks" "I", .laysFinal "CatchSharesModel" "CatchSharesModel" "allowed" "[J", .laysFinal "CatchSharesModel" "CatchSharesModel" "aside" "[J", .laysFinal "CatchSharesModel" "CatchSharesModel" "follows" "[I", .laysFinal "CatchSharesModel" "CatchSharesModel" "isParted" "[Z", .laysFinal "CatchSharesModel" "CatchSharesModel" "caps" "[I", .laysFinal "CatchSharesModel" "CatchSharesModel" "extra" "[J", .laysFinal "CatchSharesModel" "CatchSharesModel" "kept" "[J", .laysFinal "CatchSharesModel" "CatchSharesModel" "thrownBack" "[J", .lays "CatchSharesModel" "CatchSharesModel" "holders" "I", .laysFinal "CatchSharesModel" "CatchSharesModel" "owners" "[I", .laysFinal "CatchSharesModel" "CatchSharesModel" "pools" "[I", .laysFinal "CatchSharesModel" "CatchSharesModel" "weights" "[J", .laysFinal "CatchSharesModel" "CatchSharesModel" "shares" "[J", .laysFinal "CatchSharesModel" "CatchSharesModel" "rests" "[J", .lays "CatchSharesModel" "CatchSharesModel" "landings" "I", .laysFinal "CatchSharesModel" "CatchSharesModel" "landedWhere" "[I", .laysFinal "CatchSharesModel" "CatchSharesModel" "landed" "[J", .laysFinal "CatchSharesModel" "CatchSharesModel" "toldOn" "[I", .lays "CatchSharesModel" "CatchSharesModel" "penaltyAbove" "I", .lays "CatchSharesModel" "CatchSharesModel" "penaltyBelow" "I", .laysFinal "CatchSharesModel" "CatchSharesModel" "own" "[I", .laysFinal "CatchSharesModel" "CatchSharesModel" "holds" "[J", .laysFinal "CatchSharesModel" "CatchSharesModel" "next" "[J"]
set_option maxRecDepth 100000 in
theorem gW_6_in : GoodIn lw_tbl gW_6 := cx_gr gW_6 [408, 409, 410, 411, 412, 413, 414, 415, 416, 417, 418, 419, 420, 421, 422, 423, 424, 425, 426, 427, 428, 429, 430, 431, 432, 433, 434, 435, 436, 437, 438, 439, 440, 441, 442, 443, 444, 446, 448, 450, 452, 454, 456, 458, 460, 462, 464, 466, 468, 470, 472, 474, 476, 478, 480, 482, 484, 486, 488, 490] rfl (by decide +kernel)
def gW_7 : List Cond := [.laysFinal "CatchSharesModel" "CatchSharesModel" "all" "[J", .arrayClass FieldType.boolean, .methodLink "CatchSharesLaw" (19) mn_M_stock, .instanceMethod mn_M_stock, .selects "CatchSharesModel" mn_M_stock mn_M_stock, .code mn_M_stock prog_6_method_6_code (3) (Option.some FieldType.int), .constantLong "CatchSharesModel" (91) (1000000000), .methodLink "CatchSharesModel" (82) mn_M_in, .static mn_M_in, .code mn_M_in prog_6_method_2_code (6) (Option.some FieldType.boolean), .methodLink "CatchSharesLaw" (24) mn_M_holder, .instanceMethod mn_M_holder, .selects "CatchSharesModel" mn_M_holder mn_M_holder, .code mn_M_holder prog_6_method_7_code (2) (Option.some FieldType.int), .methodLink "CatchSharesModel" (93) mn_M_isOwner, .static mn_M_isOwner, .code mn_M_isOwner prog_6_method_5_code (1) (Option.some FieldType.boolean), .constantLong "CatchSharesModel" (89) (9), .methodLink "CatchSharesLaw" (29) mn_M_weight, .instanceMethod mn_M_weight, .selects "CatchSharesModel" mn_M_weight mn_M_weight, .code mn_M_weight prog_6_method_8_code (5) (Option.some FieldType.boolean), .methodLink "CatchSharesModel" (97) mn_M_isStock, .instanceMethod mn_M_isStock, .code mn_M_isStock prog_6_method_3_code (2) (Option.some FieldType.boolean), .methodLink "CatchSharesModel" (100) mn_M_isHolder, .instanceMethod mn_M_isHolder, .code mn_M_isHolder prog_6_method_4_code (2) (Option.some FieldType.boolean), .constantLong "CatchSharesModel" (103) (1000000), .methodLink "CatchSharesLaw" (34) mn_M_aside, .instanceMethod mn_M_aside, .selects "CatchSharesModel" mn_M_aside mn_M_aside, .code mn_M_aside prog_6_method_9_code (4) (Option.some FieldType.boolean), .methodLink "CatchSharesLaw" (39) mn_M_follows, .instanceMethod mn_M_follows, .selects "CatchSharesModel" mn_M_follows mn_M_follows, .code mn_M_follows prog_6_method_10_code (3) (Option.some FieldType.boolean), .methodLink "CatchSharesLaw" (43) mn_M_part, .instanceMethod mn_M_part, .selects "CatchSharesModel" mn_M_part mn_M_part, .code mn_M_part prog_6_method_13_code (15) (Option.some FieldType.int), .methodLink "CatchSharesModel" (105) mn_M_allWeights, .instanceMethod mn_M_allWeights, .code mn_M_allWeights prog_6_method_11_code (5) (Option.some FieldType.long), .constantLong "CatchSharesModel" (109) (-1), .methodLink "CatchSharesModel" (111) mn_M_carriedOf, .instanceMethod mn_M_carriedOf, .code mn_M_carriedOf prog_6_method_20_code (9) (Option.some FieldType.long), .methodLink "CatchSharesModel" (128) mn_M_overOf, .instanceMethod mn_M_overOf, .code mn_M_overOf prog_6_method_19_code (5) (Option.some FieldType.long), .methodLink "CatchSharesModel" (125) mn_M_leftOf, .instanceMethod mn_M_leftOf, .code mn_M_leftOf prog_6_method_17_code (3) (Option.some FieldType.long), .constant "CatchSharesModel" (120) (99999), .methodLink "CatchSharesModel" (121) mn_M_leftOn, .instanceMethod mn_M_leftOn, .code mn_M_leftOn prog_6_method_16_code (7) (Option.some FieldType.long), .constantLong "CatchSharesModel" (131) (10), .methodLink "CatchSharesLaw" (48) mn_M_given]
set_option maxRecDepth 100000 in
theorem gW_7_in : GoodIn lw_tbl gW_7 := cx_gr gW_7 [492, 495, 496, 497, 498, 499, 500, 501, 502, 503, 504, 505, 506, 507, 508, 509, 510, 511, 512, 513, 514, 515, 516, 518, 519, 520, 522, 523, 524, 525, 526, 527, 528, 529, 530, 531, 532, 533, 534, 535, 536, 537, 539, 540, 541, 542, 544, 545, 546, 548, 549, 550, 552, 553, 554, 555, 557, 558, 559, 560] rfl (by decide +kernel)
def gW_8 : List Cond := [.instanceMethod mn_M_given, .selects "CatchSharesModel" mn_M_given mn_M_given, .code mn_M_given prog_6_method_14_code (3) (Option.some FieldType.long), .methodLink "CatchSharesLaw" (53) mn_M_land, .instanceMethod mn_M_land, .selects "CatchSharesModel" mn_M_land mn_M_land, .code mn_M_land prog_6_method_15_code (7) (Option.some FieldType.boolean), .constantLong "CatchSharesModel" (118) (99999), .methodLink "CatchSharesLaw" (58) mn_M_left, .instanceMethod mn_M_left, .selects "CatchSharesModel" mn_M_left mn_M_left, .code mn_M_left prog_6_method_18_code (4) (Option.some FieldType.long), .methodLink "CatchSharesLaw" (72) mn_M_over, .instanceMethod mn_M_over, .selects "CatchSharesModel" mn_M_over mn_M_over, .code mn_M_over prog_6_method_21_code (3) (Option.some FieldType.long), .methodLink "CatchSharesLaw" (76) mn_M_carried, .instanceMethod mn_M_carried, .selects "CatchSharesModel" mn_M_carried mn_M_carried, .code mn_M_carried prog_6_method_22_code (3) (Option.some FieldType.long), .methodLink "CatchSharesLaw" (80) mn_M_penalty, .instanceMethod mn_M_penalty, .selects "CatchSharesModel" mn_M_penalty mn_M_penalty, .code mn_M_penalty prog_6_method_23_code (3) (Option.some FieldType.boolean), .constantLong "CatchSharesModel" (133) (1000), .methodLink "CatchSharesLaw" (63) mn_M_transfer, .instanceMethod mn_M_transfer, .selects "CatchSharesModel" mn_M_transfer mn_M_transfer, .code mn_M_transfer prog_6_method_24_code (6) (Option.some FieldType.int), .methodLink "CatchSharesLaw" (68) mn_M_swap, .instanceMethod mn_M_swap, .selects "CatchSharesModel" mn_M_swap mn_M_swap, .code mn_M_swap prog_6_method_25_code (10) (Option.some FieldType.int), .methodLink "CatchSharesModel" (135) mn_M_allShares, .instanceMethod mn_M_allShares, .code mn_M_allShares prog_6_method_12_code (5) (Option.some FieldType.long), .constantLong "CatchSharesModel" (138) (2000000000), .methodLink "CatchSharesLaw" (84) mn_M_into, .instanceMethod mn_M_into, .selects "CatchSharesModel" mn_M_into mn_M_into, .code mn_M_into prog_6_method_26_code (3) (Option.some FieldType.boolean), .constantLong "CatchSharesModel" (140) (3), .methodLink "CatchSharesLaw" (88) mn_M_pooled, .instanceMethod mn_M_pooled, .selects "CatchSharesModel" mn_M_pooled mn_M_pooled, .code mn_M_pooled prog_6_method_27_code (6) (Option.some FieldType.long), .methodLink "CatchSharesLaw" (93) mn_M_owns, .instanceMethod mn_M_owns, .selects "CatchSharesModel" mn_M_owns mn_M_owns, .code mn_M_owns prog_6_method_29_code (6) (Option.some FieldType.boolean), .constantLong "CatchSharesModel" (142) (100), .methodLink "CatchSharesModel" (144) mn_M_reaches, .instanceMethod mn_M_reaches, .code mn_M_reaches prog_6_method_28_code (6) (Option.some FieldType.boolean), .methodLink "CatchSharesLaw" (97) mn_M_hold, .instanceMethod mn_M_hold, .selects "CatchSharesModel" mn_M_hold mn_M_hold, .code mn_M_hold prog_6_method_31_code (3) (Option.some FieldType.long), .methodLink "CatchSharesModel" (148) mn_M_findHolds, .instanceMethod mn_M_findHolds]
set_option maxRecDepth 100000 in
theorem gW_8_in : GoodIn lw_tbl gW_8 := cx_gr gW_8 [561, 562, 563, 564, 565, 566, 567, 568, 569, 570, 571, 572, 573, 574, 575, 576, 577, 578, 579, 580, 581, 582, 583, 584, 585, 586, 587, 588, 589, 590, 591, 592, 593, 594, 596, 597, 598, 599, 600, 601, 602, 603, 604, 605, 606, 607, 608, 609, 610, 611, 612, 613, 615, 616, 617, 618, 619, 620, 621, 623] rfl (by decide +kernel)
def gW_9 : List Cond := [.code mn_M_findHolds prog_6_method_30_code (7) none, .methodLink "CatchSharesLaw" (101) mn_M_cap, .instanceMethod mn_M_cap, .selects "CatchSharesModel" mn_M_cap mn_M_cap, .code mn_M_cap prog_6_method_32_code (3) (Option.some FieldType.boolean), .methodLink "CatchSharesLaw" (106) mn_M_capped, .instanceMethod mn_M_capped, .selects "CatchSharesModel" mn_M_capped mn_M_capped, .code mn_M_capped prog_6_method_34_code (4) (Option.some FieldType.boolean), .methodLink "CatchSharesModel" (154) mn_M_isAbove, .instanceMethod mn_M_isAbove, .code mn_M_isAbove prog_6_method_33_code (10) (Option.some FieldType.boolean), .constantLong "CatchSharesModel" (152) (10000000), .methodLink "CatchSharesLaw" (110) mn_M_choke, .instanceMethod mn_M_choke, .selects "CatchSharesModel" mn_M_choke mn_M_choke, .code mn_M_choke prog_6_method_37_code (6) (Option.some FieldType.int), .methodLink "CatchSharesModel" (161) mn_M_isLess, .static mn_M_isLess, .code mn_M_isLess prog_6_method_35_code (25) (Option.some FieldType.boolean), .methodLink "CatchSharesModel" (157) mn_M_down, .static mn_M_down, .code mn_M_down prog_6_method_36_code (6) (Option.some FieldType.long), .methodLink "CatchSharesLaw" (115) mn_M_closes, .instanceMethod mn_M_closes, .selects "CatchSharesModel" mn_M_closes mn_M_closes, .code mn_M_closes prog_6_method_38_code (9) (Option.some FieldType.long), .methodLink "CatchSharesLaw" (120) mn_M_seen, .instanceMethod mn_M_seen, .selects "CatchSharesModel" mn_M_seen mn_M_seen, .code mn_M_seen prog_6_method_39_code (6) (Option.some FieldType.boolean), .methodLink "CatchSharesLaw" (125) mn_M_discard, .instanceMethod mn_M_discard, .selects "CatchSharesModel" mn_M_discard mn_M_discard, .code mn_M_discard prog_6_method_41_code (2) (Option.some FieldType.long), .methodLink "CatchSharesModel" (165) mn_M_allLandings, .instanceMethod mn_M_allLandings, .code mn_M_allLandings prog_6_method_40_code (5) (Option.some FieldType.long), .methodLink "CatchSharesLaw" (129) mn_M_told, .instanceMethod mn_M_told, .selects "CatchSharesModel" mn_M_told mn_M_told, .code mn_M_told prog_6_method_42_code (3) (Option.some FieldType.long), .methodLink "CatchSharesLaw" (133) mn_M_sums, .instanceMethod mn_M_sums, .selects "CatchSharesModel" mn_M_sums mn_M_sums, .code mn_M_sums prog_6_method_43_code (2) (Option.some FieldType.boolean), .constantLong "CatchSharesLaw" (13) (4294967295)]
set_option maxRecDepth 100000 in
theorem gW_9_in : GoodIn lw_tbl gW_9 := cx_gr gW_9 [624, 625, 626, 627, 628, 629, 630, 631, 632, 633, 635, 636, 637, 638, 639, 640, 641, 642, 643, 644, 645, 646, 647, 648, 649, 650, 651, 652, 653, 654, 655, 656, 657, 658, 659, 660, 662, 663, 664, 665, 666, 667, 668, 669, 670, 671, 672] rfl (by decide +kernel)
def GW : List Cond := gW_0 ++ (gW_1 ++ (gW_2 ++ (gW_3 ++ (gW_4 ++ (gW_5 ++ (gW_6 ++ (gW_7 ++ (gW_8 ++ (gW_9)))))))))
theorem cx_gapp {big a b : List Cond} (ha : GoodIn big a) (hb : GoodIn big b) : GoodIn big (a ++ b) := fun w h => (List.mem_append.mp h).elim (ha w) (hb w)
theorem GW_tbl : GoodIn lw_tbl GW := (cx_gapp gW_0_in (cx_gapp gW_1_in (cx_gapp gW_2_in (cx_gapp gW_3_in (cx_gapp gW_4_in (cx_gapp gW_5_in (cx_gapp gW_6_in (cx_gapp gW_7_in (cx_gapp gW_8_in gW_9_in)))))))))
theorem GW_good : GoodIn GW GW := fun w h => ⟨h, (GW_tbl w h).2⟩
theorem gs_C_findStock : Cond.selects "CatchShares" mn_C_findStock mn_C_findStock ∈ GW := List.mem_append_left _ (List.mem_of_getElem? (i := 0) rfl)
theorem gs_C_isHolder : Cond.selects "CatchShares" mn_C_isHolder mn_C_isHolder ∈ GW := List.mem_append_left _ (List.mem_of_getElem? (i := 1) rfl)
theorem gs_S_rankByRest : Cond.selects "CatchShares$Stock" mn_S_rankByRest mn_S_rankByRest ∈ GW := List.mem_append_left _ (List.mem_of_getElem? (i := 2) rfl)
theorem gs_S_restOf : Cond.selects "CatchShares$Stock" mn_S_restOf mn_S_restOf ∈ GW := List.mem_append_left _ (List.mem_of_getElem? (i := 3) rfl)
theorem gs_C_carryOver : Cond.selects "CatchShares" mn_C_carryOver mn_C_carryOver ∈ GW := List.mem_append_left _ (List.mem_of_getElem? (i := 4) rfl)
theorem gs_C_carriedOf : Cond.selects "CatchShares" mn_C_carriedOf mn_C_carriedOf ∈ GW := List.mem_append_left _ (List.mem_of_getElem? (i := 5) rfl)
theorem gs_C_overOf : Cond.selects "CatchShares" mn_C_overOf mn_C_overOf ∈ GW := List.mem_append_left _ (List.mem_of_getElem? (i := 6) rfl)
theorem gs_C_leftInAll : Cond.selects "CatchShares" mn_C_leftInAll mn_C_leftInAll ∈ GW := List.mem_append_left _ (List.mem_of_getElem? (i := 7) rfl)
theorem gs_C_leftOn : Cond.selects "CatchShares" mn_C_leftOn mn_C_leftOn ∈ GW := List.mem_append_left _ (List.mem_of_getElem? (i := 8) rfl)
theorem gs_C_holdOf : Cond.selects "CatchShares" mn_C_holdOf mn_C_holdOf ∈ GW := List.mem_append_left _ (List.mem_of_getElem? (i := 9) rfl)
theorem gs_O_lengthenWays : Cond.selects "CatchShares$Owners" mn_O_lengthenWays mn_O_lengthenWays ∈ GW := List.mem_append_left _ (List.mem_of_getElem? (i := 10) rfl)
theorem gs_C_isAboveCap : Cond.selects "CatchShares" mn_C_isAboveCap mn_C_isAboveCap ∈ GW := List.mem_append_left _ (List.mem_of_getElem? (i := 11) rfl)
theorem gs_C_isScarcer : Cond.selects "CatchShares" mn_C_isScarcer mn_C_isScarcer ∈ GW := List.mem_append_left _ (List.mem_of_getElem? (i := 12) rfl)
theorem gs_M_isStock : Cond.selects "CatchSharesModel" mn_M_isStock mn_M_isStock ∈ GW := List.mem_append_left _ (List.mem_of_getElem? (i := 13) rfl)
theorem gs_M_isHolder : Cond.selects "CatchSharesModel" mn_M_isHolder mn_M_isHolder ∈ GW := List.mem_append_left _ (List.mem_of_getElem? (i := 14) rfl)
theorem gs_M_allWeights : Cond.selects "CatchSharesModel" mn_M_allWeights mn_M_allWeights ∈ GW := List.mem_append_left _ (List.mem_of_getElem? (i := 15) rfl)
theorem gs_M_carriedOf : Cond.selects "CatchSharesModel" mn_M_carriedOf mn_M_carriedOf ∈ GW := List.mem_append_left _ (List.mem_of_getElem? (i := 16) rfl)
theorem gs_M_overOf : Cond.selects "CatchSharesModel" mn_M_overOf mn_M_overOf ∈ GW := List.mem_append_left _ (List.mem_of_getElem? (i := 17) rfl)
theorem gs_M_leftOf : Cond.selects "CatchSharesModel" mn_M_leftOf mn_M_leftOf ∈ GW := List.mem_append_left _ (List.mem_of_getElem? (i := 18) rfl)
theorem gs_M_leftOn : Cond.selects "CatchSharesModel" mn_M_leftOn mn_M_leftOn ∈ GW := List.mem_append_left _ (List.mem_of_getElem? (i := 19) rfl)
theorem gs_M_allShares : Cond.selects "CatchSharesModel" mn_M_allShares mn_M_allShares ∈ GW := List.mem_append_left _ (List.mem_of_getElem? (i := 20) rfl)
theorem gs_M_reaches : Cond.selects "CatchSharesModel" mn_M_reaches mn_M_reaches ∈ GW := List.mem_append_left _ (List.mem_of_getElem? (i := 21) rfl)
theorem gs_M_findHolds : Cond.selects "CatchSharesModel" mn_M_findHolds mn_M_findHolds ∈ GW := List.mem_append_left _ (List.mem_of_getElem? (i := 22) rfl)
theorem gs_M_isAbove : Cond.selects "CatchSharesModel" mn_M_isAbove mn_M_isAbove ∈ GW := List.mem_append_left _ (List.mem_of_getElem? (i := 23) rfl)
theorem gs_M_allLandings : Cond.selects "CatchSharesModel" mn_M_allLandings mn_M_allLandings ∈ GW := List.mem_append_left _ (List.mem_of_getElem? (i := 24) rfl)
theorem gi_W : Cond.initialized "CatchSharesLaw" ∈ GW := List.mem_append_left _ (List.mem_of_getElem? (i := 25) rfl)
theorem gi_C : Cond.initialized "CatchShares" ∈ GW := List.mem_append_left _ (List.mem_of_getElem? (i := 26) rfl)
theorem gi_L : Cond.initialized "CatchShares$Landings" ∈ GW := List.mem_append_left _ (List.mem_of_getElem? (i := 27) rfl)
theorem gi_O : Cond.initialized "CatchShares$Owners" ∈ GW := List.mem_append_left _ (List.mem_of_getElem? (i := 28) rfl)
theorem gi_M : Cond.initialized "CatchSharesModel" ∈ GW := List.mem_append_left _ (List.mem_of_getElem? (i := 29) rfl)
theorem gi_S : Cond.initialized "CatchShares$Stock" ∈ GW := List.mem_append_left _ (List.mem_of_getElem? (i := 30) rfl)
theorem gi_Math : Cond.initialized "java/lang/Math" ∈ GW := List.mem_append_left _ (List.mem_of_getElem? (i := 31) rfl)
theorem gi_System : Cond.initialized "java/lang/System" ∈ GW := List.mem_append_left _ (List.mem_of_getElem? (i := 32) rfl)
theorem gc_W_7 : Cond.classLink "CatchSharesLaw" (7) "CatchShares" ∈ GW := List.mem_append_left _ (List.mem_of_getElem? (i := 33) rfl)
theorem gn_C : Cond.instantiable "CatchShares" (9) ∈ GW := List.mem_append_left _ (List.mem_of_getElem? (i := 34) rfl)
theorem gm_W_9 : Cond.methodLink "CatchSharesLaw" (9) mn_C_init ∈ GW := List.mem_append_left _ (List.mem_of_getElem? (i := 35) rfl)
theorem gj_C_init : Cond.instanceMethod mn_C_init ∈ GW := List.mem_append_left _ (List.mem_of_getElem? (i := 36) rfl)
theorem gd_C_init : Cond.code mn_C_init prog_1_method_1_code (1) none ∈ GW := List.mem_append_left _ (List.mem_of_getElem? (i := 37) rfl)
theorem gm_C_1 : Cond.methodLink "CatchShares" (1) objectInit ∈ GW := List.mem_append_left _ (List.mem_of_getElem? (i := 38) rfl)
theorem gj_objectInit : Cond.instanceMethod objectInit ∈ GW := List.mem_append_left _ (List.mem_of_getElem? (i := 39) rfl)
theorem gd_objectInit : Cond.code objectInit object_method_1_code (1) none ∈ GW := List.mem_append_left _ (List.mem_of_getElem? (i := 40) rfl)
theorem gc_C_9 : Cond.classLink "CatchShares" (9) "CatchShares$Stock" ∈ GW := List.mem_append_left _ (List.mem_of_getElem? (i := 41) rfl)
theorem gc_C_22 : Cond.classLink "CatchShares" (22) "CatchShares$Landings" ∈ GW := List.mem_append_left _ (List.mem_of_getElem? (i := 42) rfl)
theorem gn_L : Cond.instantiable "CatchShares$Landings" (5) ∈ GW := List.mem_append_left _ (List.mem_of_getElem? (i := 43) rfl)
theorem gm_C_24 : Cond.methodLink "CatchShares" (24) mn_L_init ∈ GW := List.mem_append_left _ (List.mem_of_getElem? (i := 44) rfl)
theorem gj_L_init : Cond.instanceMethod mn_L_init ∈ GW := List.mem_append_left _ (List.mem_of_getElem? (i := 45) rfl)
theorem gd_L_init : Cond.code mn_L_init prog_2_method_1_code (1) none ∈ GW := List.mem_append_left _ (List.mem_of_getElem? (i := 46) rfl)
theorem gm_L_3 : Cond.methodLink "CatchShares$Landings" (3) objectInit ∈ GW := List.mem_append_left _ (List.mem_of_getElem? (i := 47) rfl)
theorem gf_L_9 : Cond.fieldLink "CatchShares$Landings" (9) "CatchShares$Landings" "stockNumbers" "[I" ∈ GW := List.mem_append_left _ (List.mem_of_getElem? (i := 48) rfl)
theorem gf_L_15 : Cond.fieldLink "CatchShares$Landings" (15) "CatchShares$Landings" "holderNumbers" "[I" ∈ GW := List.mem_append_left _ (List.mem_of_getElem? (i := 49) rfl)
theorem gf_L_18 : Cond.fieldLink "CatchShares$Landings" (18) "CatchShares$Landings" "caught" "[J" ∈ GW := List.mem_append_left _ (List.mem_of_getElem? (i := 50) rfl)
theorem gf_L_22 : Cond.fieldLink "CatchShares$Landings" (22) "CatchShares$Landings" "toldDays" "[I" ∈ GW := List.mem_append_left _ (List.mem_of_getElem? (i := 51) rfl)
theorem gf_L_25 : Cond.fieldLink "CatchShares$Landings" (25) "CatchShares$Landings" "count" "I" ∈ GW := List.mem_append_left _ (List.mem_of_getElem? (i := 52) rfl)
theorem ga_int : Cond.arrayClass FieldType.int ∈ GW := List.mem_append_left _ (List.mem_of_getElem? (i := 58) rfl)
theorem ga_long : Cond.arrayClass FieldType.long ∈ GW := List.mem_append_left _ (List.mem_of_getElem? (i := 59) rfl)
theorem gc_C_29 : Cond.classLink "CatchShares" (29) "CatchShares$Owners" ∈ GW := List.mem_append_right _ (List.mem_append_left _ (List.mem_of_getElem? (i := 0) rfl))
theorem gn_O : Cond.instantiable "CatchShares$Owners" (4) ∈ GW := List.mem_append_right _ (List.mem_append_left _ (List.mem_of_getElem? (i := 1) rfl))
theorem gm_C_31 : Cond.methodLink "CatchShares" (31) mn_O_init ∈ GW := List.mem_append_right _ (List.mem_append_left _ (List.mem_of_getElem? (i := 2) rfl))
theorem gj_O_init : Cond.instanceMethod mn_O_init ∈ GW := List.mem_append_right _ (List.mem_append_left _ (List.mem_of_getElem? (i := 3) rfl))
theorem gd_O_init : Cond.code mn_O_init prog_3_method_1_code (1) none ∈ GW := List.mem_append_right _ (List.mem_append_left _ (List.mem_of_getElem? (i := 4) rfl))
theorem gm_O_3 : Cond.methodLink "CatchShares$Owners" (3) objectInit ∈ GW := List.mem_append_right _ (List.mem_append_left _ (List.mem_of_getElem? (i := 5) rfl))
theorem gf_O_9 : Cond.fieldLink "CatchShares$Owners" (9) "CatchShares$Owners" "parts" "[I" ∈ GW := List.mem_append_right _ (List.mem_append_left _ (List.mem_of_getElem? (i := 6) rfl))
theorem gf_O_15 : Cond.fieldLink "CatchShares$Owners" (15) "CatchShares$Owners" "ways" "[J" ∈ GW := List.mem_append_right _ (List.mem_append_left _ (List.mem_of_getElem? (i := 7) rfl))
theorem gf_O_19 : Cond.fieldLink "CatchShares$Owners" (19) "CatchShares$Owners" "longerWays" "[J" ∈ GW := List.mem_append_right _ (List.mem_append_left _ (List.mem_of_getElem? (i := 8) rfl))
theorem gf_O_22 : Cond.fieldLink "CatchShares$Owners" (22) "CatchShares$Owners" "holds" "[J" ∈ GW := List.mem_append_right _ (List.mem_append_left _ (List.mem_of_getElem? (i := 9) rfl))
theorem gf_C_11 : Cond.fieldLink "CatchShares" (11) "CatchShares" "stocks" "[LCatchShares$Stock;" ∈ GW := List.mem_append_right _ (List.mem_append_left _ (List.mem_of_getElem? (i := 14) rfl))
theorem gf_C_43 : Cond.fieldLink "CatchShares" (43) "CatchShares" "stockCount" "I" ∈ GW := List.mem_append_right _ (List.mem_append_left _ (List.mem_of_getElem? (i := 15) rfl))
theorem gf_C_15 : Cond.fieldLink "CatchShares" (15) "CatchShares" "ownerOf" "[I" ∈ GW := List.mem_append_right _ (List.mem_append_left _ (List.mem_of_getElem? (i := 16) rfl))
theorem gf_C_19 : Cond.fieldLink "CatchShares" (19) "CatchShares" "poolOf" "[I" ∈ GW := List.mem_append_right _ (List.mem_append_left _ (List.mem_of_getElem? (i := 17) rfl))
theorem gf_C_55 : Cond.fieldLink "CatchShares" (55) "CatchShares" "holderCount" "I" ∈ GW := List.mem_append_right _ (List.mem_append_left _ (List.mem_of_getElem? (i := 18) rfl))
theorem gf_C_25 : Cond.fieldLink "CatchShares" (25) "CatchShares" "landings" "LCatchShares$Landings;" ∈ GW := List.mem_append_right _ (List.mem_append_left _ (List.mem_of_getElem? (i := 19) rfl))
theorem gf_C_32 : Cond.fieldLink "CatchShares" (32) "CatchShares" "owners" "LCatchShares$Owners;" ∈ GW := List.mem_append_right _ (List.mem_append_left _ (List.mem_of_getElem? (i := 20) rfl))
theorem gf_C_36 : Cond.fieldLink "CatchShares" (36) "CatchShares" "penaltyAbove" "I" ∈ GW := List.mem_append_right _ (List.mem_append_left _ (List.mem_of_getElem? (i := 21) rfl))
theorem gf_C_40 : Cond.fieldLink "CatchShares" (40) "CatchShares" "penaltyBelow" "I" ∈ GW := List.mem_append_right _ (List.mem_append_left _ (List.mem_of_getElem? (i := 22) rfl))
theorem gm_W_15 : Cond.methodLink "CatchSharesLaw" (15) mn_C_stock ∈ GW := List.mem_append_right _ (List.mem_append_left _ (List.mem_of_getElem? (i := 32) rfl))
theorem gj_C_stock : Cond.instanceMethod mn_C_stock ∈ GW := List.mem_append_right _ (List.mem_append_left _ (List.mem_of_getElem? (i := 33) rfl))
theorem gs_C_stock : Cond.selects "CatchShares" mn_C_stock mn_C_stock ∈ GW := List.mem_append_right _ (List.mem_append_left _ (List.mem_of_getElem? (i := 34) rfl))
theorem gd_C_stock : Cond.code mn_C_stock prog_1_method_2_code (4) (Option.some FieldType.int) ∈ GW := List.mem_append_right _ (List.mem_append_left _ (List.mem_of_getElem? (i := 35) rfl))
theorem gk_C_46 : Cond.constantLong "CatchShares" (46) (1000000000) ∈ GW := List.mem_append_right _ (List.mem_append_left _ (List.mem_of_getElem? (i := 36) rfl))
theorem gm_C_48 : Cond.methodLink "CatchShares" (48) mn_C_isWithin ∈ GW := List.mem_append_right _ (List.mem_append_left _ (List.mem_of_getElem? (i := 37) rfl))
theorem gt_C_isWithin : Cond.static mn_C_isWithin ∈ GW := List.mem_append_right _ (List.mem_append_left _ (List.mem_of_getElem? (i := 38) rfl))
theorem gd_C_isWithin : Cond.code mn_C_isWithin prog_1_method_28_code (6) (Option.some FieldType.boolean) ∈ GW := List.mem_append_right _ (List.mem_append_left _ (List.mem_of_getElem? (i := 39) rfl))
theorem gn_S : Cond.instantiable "CatchShares$Stock" (11) ∈ GW := List.mem_append_right _ (List.mem_append_left _ (List.mem_of_getElem? (i := 40) rfl))
theorem gm_C_52 : Cond.methodLink "CatchShares" (52) mn_S_init ∈ GW := List.mem_append_right _ (List.mem_append_left _ (List.mem_of_getElem? (i := 41) rfl))
theorem gj_S_init : Cond.instanceMethod mn_S_init ∈ GW := List.mem_append_right _ (List.mem_append_left _ (List.mem_of_getElem? (i := 42) rfl))
theorem gd_S_init : Cond.code mn_S_init prog_4_method_1_code (4) none ∈ GW := List.mem_append_right _ (List.mem_append_left _ (List.mem_of_getElem? (i := 43) rfl))
theorem gm_S_3 : Cond.methodLink "CatchShares$Stock" (3) objectInit ∈ GW := List.mem_append_right _ (List.mem_append_left _ (List.mem_of_getElem? (i := 44) rfl))
theorem gf_S_9 : Cond.fieldLink "CatchShares$Stock" (9) "CatchShares$Stock" "number" "I" ∈ GW := List.mem_append_right _ (List.mem_append_left _ (List.mem_of_getElem? (i := 45) rfl))
theorem gf_C_167 : Cond.fieldLink "CatchShares" (167) "CatchShares$Stock" "number" "I" ∈ GW := List.mem_append_right _ (List.mem_append_left _ (List.mem_of_getElem? (i := 46) rfl))
theorem gf_S_15 : Cond.fieldLink "CatchShares$Stock" (15) "CatchShares$Stock" "allowed" "J" ∈ GW := List.mem_append_right _ (List.mem_append_left _ (List.mem_of_getElem? (i := 47) rfl))
theorem gf_C_79 : Cond.fieldLink "CatchShares" (79) "CatchShares$Stock" "allowed" "J" ∈ GW := List.mem_append_right _ (List.mem_append_left _ (List.mem_of_getElem? (i := 48) rfl))
theorem gf_S_19 : Cond.fieldLink "CatchShares$Stock" (19) "CatchShares$Stock" "weights" "[J" ∈ GW := List.mem_append_right _ (List.mem_append_left _ (List.mem_of_getElem? (i := 49) rfl))
theorem gf_C_75 : Cond.fieldLink "CatchShares" (75) "CatchShares$Stock" "weights" "[J" ∈ GW := List.mem_append_right _ (List.mem_append_left _ (List.mem_of_getElem? (i := 50) rfl))
theorem gf_S_23 : Cond.fieldLink "CatchShares$Stock" (23) "CatchShares$Stock" "shares" "[J" ∈ GW := List.mem_append_right _ (List.mem_append_left _ (List.mem_of_getElem? (i := 51) rfl))
theorem gf_C_103 : Cond.fieldLink "CatchShares" (103) "CatchShares$Stock" "shares" "[J" ∈ GW := List.mem_append_right _ (List.mem_append_left _ (List.mem_of_getElem? (i := 52) rfl))
theorem gf_C_83 : Cond.fieldLink "CatchShares" (83) "CatchShares$Stock" "setAside" "J" ∈ GW := List.mem_append_right _ (List.mem_append_left _ (List.mem_of_getElem? (i := 53) rfl))
theorem gf_S_40 : Cond.fieldLink "CatchShares$Stock" (40) "CatchShares$Stock" "setAside" "J" ∈ GW := List.mem_append_right _ (List.mem_append_left _ (List.mem_of_getElem? (i := 54) rfl))
theorem gf_C_69 : Cond.fieldLink "CatchShares" (69) "CatchShares$Stock" "parted" "Z" ∈ GW := List.mem_append_right _ (List.mem_append_left _ (List.mem_of_getElem? (i := 55) rfl))
theorem gf_S_26 : Cond.fieldLink "CatchShares$Stock" (26) "CatchShares$Stock" "followed" "I" ∈ GW := List.mem_append_right _ (List.mem_append_left _ (List.mem_of_getElem? (i := 56) rfl))
theorem gf_C_86 : Cond.fieldLink "CatchShares" (86) "CatchShares$Stock" "followed" "I" ∈ GW := List.mem_append_right _ (List.mem_append_left _ (List.mem_of_getElem? (i := 57) rfl))
theorem gf_S_29 : Cond.fieldLink "CatchShares$Stock" (29) "CatchShares$Stock" "capHundredths" "I" ∈ GW := List.mem_append_right _ (List.mem_append_left _ (List.mem_of_getElem? (i := 58) rfl))
theorem gf_C_152 : Cond.fieldLink "CatchShares" (152) "CatchShares$Stock" "capHundredths" "I" ∈ GW := List.mem_append_right _ (List.mem_append_left _ (List.mem_of_getElem? (i := 59) rfl))
theorem gf_C_179 : Cond.fieldLink "CatchShares" (179) "CatchShares$Stock" "keptSeen" "J" ∈ GW := List.mem_append_right _ (List.mem_append_right _ (List.mem_append_left _ (List.mem_of_getElem? (i := 0) rfl)))
theorem gf_C_182 : Cond.fieldLink "CatchShares" (182) "CatchShares$Stock" "thrownSeen" "J" ∈ GW := List.mem_append_right _ (List.mem_append_right _ (List.mem_append_left _ (List.mem_of_getElem? (i := 1) rfl)))
theorem gf_S_47 : Cond.fieldLink "CatchShares$Stock" (47) "CatchShares$Stock" "dueShares" "J" ∈ GW := List.mem_append_right _ (List.mem_append_right _ (List.mem_append_left _ (List.mem_of_getElem? (i := 2) rfl)))
theorem gf_C_189 : Cond.fieldLink "CatchShares" (189) "CatchShares$Stock" "dueShares" "J" ∈ GW := List.mem_append_right _ (List.mem_append_right _ (List.mem_append_left _ (List.mem_of_getElem? (i := 3) rfl)))
theorem gm_W_20 : Cond.methodLink "CatchSharesLaw" (20) mn_C_holder ∈ GW := List.mem_append_right _ (List.mem_append_right _ (List.mem_append_left _ (List.mem_of_getElem? (i := 15) rfl)))
theorem gj_C_holder : Cond.instanceMethod mn_C_holder ∈ GW := List.mem_append_right _ (List.mem_append_right _ (List.mem_append_left _ (List.mem_of_getElem? (i := 16) rfl)))
theorem gs_C_holder : Cond.selects "CatchShares" mn_C_holder mn_C_holder ∈ GW := List.mem_append_right _ (List.mem_append_right _ (List.mem_append_left _ (List.mem_of_getElem? (i := 17) rfl)))
theorem gd_C_holder : Cond.code mn_C_holder prog_1_method_3_code (3) (Option.some FieldType.int) ∈ GW := List.mem_append_right _ (List.mem_append_right _ (List.mem_append_left _ (List.mem_of_getElem? (i := 18) rfl)))
theorem gm_C_58 : Cond.methodLink "CatchShares" (58) mn_C_isOwner ∈ GW := List.mem_append_right _ (List.mem_append_right _ (List.mem_append_left _ (List.mem_of_getElem? (i := 19) rfl)))
theorem gt_C_isOwner : Cond.static mn_C_isOwner ∈ GW := List.mem_append_right _ (List.mem_append_right _ (List.mem_append_left _ (List.mem_of_getElem? (i := 20) rfl)))
theorem gd_C_isOwner : Cond.code mn_C_isOwner prog_1_method_31_code (1) (Option.some FieldType.boolean) ∈ GW := List.mem_append_right _ (List.mem_append_right _ (List.mem_append_left _ (List.mem_of_getElem? (i := 21) rfl)))
theorem gm_W_25 : Cond.methodLink "CatchSharesLaw" (25) mn_C_weight ∈ GW := List.mem_append_right _ (List.mem_append_right _ (List.mem_append_left _ (List.mem_of_getElem? (i := 22) rfl)))
theorem gj_C_weight : Cond.instanceMethod mn_C_weight ∈ GW := List.mem_append_right _ (List.mem_append_right _ (List.mem_append_left _ (List.mem_of_getElem? (i := 23) rfl)))
theorem gs_C_weight : Cond.selects "CatchShares" mn_C_weight mn_C_weight ∈ GW := List.mem_append_right _ (List.mem_append_right _ (List.mem_append_left _ (List.mem_of_getElem? (i := 24) rfl)))
theorem gd_C_weight : Cond.code mn_C_weight prog_1_method_4_code (6) (Option.some FieldType.boolean) ∈ GW := List.mem_append_right _ (List.mem_append_right _ (List.mem_append_left _ (List.mem_of_getElem? (i := 25) rfl)))
theorem gm_C_62 : Cond.methodLink "CatchShares" (62) mn_C_findStock ∈ GW := List.mem_append_right _ (List.mem_append_right _ (List.mem_append_left _ (List.mem_of_getElem? (i := 26) rfl)))
theorem gj_C_findStock : Cond.instanceMethod mn_C_findStock ∈ GW := List.mem_append_right _ (List.mem_append_right _ (List.mem_append_left _ (List.mem_of_getElem? (i := 27) rfl)))
theorem gd_C_findStock : Cond.code mn_C_findStock prog_1_method_34_code (2) (Option.some (FieldType.object "CatchShares$Stock")) ∈ GW := List.mem_append_right _ (List.mem_append_right _ (List.mem_append_left _ (List.mem_of_getElem? (i := 28) rfl)))
theorem gm_C_66 : Cond.methodLink "CatchShares" (66) mn_C_isHolder ∈ GW := List.mem_append_right _ (List.mem_append_right _ (List.mem_append_left _ (List.mem_of_getElem? (i := 29) rfl)))
theorem gj_C_isHolder : Cond.instanceMethod mn_C_isHolder ∈ GW := List.mem_append_right _ (List.mem_append_right _ (List.mem_append_left _ (List.mem_of_getElem? (i := 30) rfl)))
theorem gd_C_isHolder : Cond.code mn_C_isHolder prog_1_method_33_code (2) (Option.some FieldType.boolean) ∈ GW := List.mem_append_right _ (List.mem_append_right _ (List.mem_append_left _ (List.mem_of_getElem? (i := 31) rfl)))
theorem gk_C_73 : Cond.constantLong "CatchShares" (73) (1000000) ∈ GW := List.mem_append_right _ (List.mem_append_right _ (List.mem_append_left _ (List.mem_of_getElem? (i := 32) rfl)))
theorem gm_W_30 : Cond.methodLink "CatchSharesLaw" (30) mn_C_aside ∈ GW := List.mem_append_right _ (List.mem_append_right _ (List.mem_append_left _ (List.mem_of_getElem? (i := 33) rfl)))
theorem gj_C_aside : Cond.instanceMethod mn_C_aside ∈ GW := List.mem_append_right _ (List.mem_append_right _ (List.mem_append_left _ (List.mem_of_getElem? (i := 34) rfl)))
theorem gs_C_aside : Cond.selects "CatchShares" mn_C_aside mn_C_aside ∈ GW := List.mem_append_right _ (List.mem_append_right _ (List.mem_append_left _ (List.mem_of_getElem? (i := 35) rfl)))
theorem gd_C_aside : Cond.code mn_C_aside prog_1_method_5_code (5) (Option.some FieldType.boolean) ∈ GW := List.mem_append_right _ (List.mem_append_right _ (List.mem_append_left _ (List.mem_of_getElem? (i := 36) rfl)))
theorem gm_W_35 : Cond.methodLink "CatchSharesLaw" (35) mn_C_follows ∈ GW := List.mem_append_right _ (List.mem_append_right _ (List.mem_append_left _ (List.mem_of_getElem? (i := 37) rfl)))
theorem gj_C_follows : Cond.instanceMethod mn_C_follows ∈ GW := List.mem_append_right _ (List.mem_append_right _ (List.mem_append_left _ (List.mem_of_getElem? (i := 38) rfl)))
theorem gs_C_follows : Cond.selects "CatchShares" mn_C_follows mn_C_follows ∈ GW := List.mem_append_right _ (List.mem_append_right _ (List.mem_append_left _ (List.mem_of_getElem? (i := 39) rfl)))
theorem gd_C_follows : Cond.code mn_C_follows prog_1_method_6_code (5) (Option.some FieldType.boolean) ∈ GW := List.mem_append_right _ (List.mem_append_right _ (List.mem_append_left _ (List.mem_of_getElem? (i := 40) rfl)))
theorem gm_W_40 : Cond.methodLink "CatchSharesLaw" (40) mn_C_part ∈ GW := List.mem_append_right _ (List.mem_append_right _ (List.mem_append_left _ (List.mem_of_getElem? (i := 41) rfl)))
theorem gj_C_part : Cond.instanceMethod mn_C_part ∈ GW := List.mem_append_right _ (List.mem_append_right _ (List.mem_append_left _ (List.mem_of_getElem? (i := 42) rfl)))
theorem gs_C_part : Cond.selects "CatchShares" mn_C_part mn_C_part ∈ GW := List.mem_append_right _ (List.mem_append_right _ (List.mem_append_left _ (List.mem_of_getElem? (i := 43) rfl)))
theorem gd_C_part : Cond.code mn_C_part prog_1_method_7_code (4) (Option.some FieldType.int) ∈ GW := List.mem_append_right _ (List.mem_append_right _ (List.mem_append_left _ (List.mem_of_getElem? (i := 44) rfl)))
theorem gm_C_89 : Cond.methodLink "CatchShares" (89) mn_S_shareOut ∈ GW := List.mem_append_right _ (List.mem_append_right _ (List.mem_append_left _ (List.mem_of_getElem? (i := 45) rfl)))
theorem gj_S_shareOut : Cond.instanceMethod mn_S_shareOut ∈ GW := List.mem_append_right _ (List.mem_append_right _ (List.mem_append_left _ (List.mem_of_getElem? (i := 46) rfl)))
theorem gs_S_shareOut : Cond.selects "CatchShares$Stock" mn_S_shareOut mn_S_shareOut ∈ GW := List.mem_append_right _ (List.mem_append_right _ (List.mem_append_left _ (List.mem_of_getElem? (i := 47) rfl)))
theorem gd_S_shareOut : Cond.code mn_S_shareOut prog_4_method_6_code (8) (Option.some FieldType.boolean) ∈ GW := List.mem_append_right _ (List.mem_append_right _ (List.mem_append_left _ (List.mem_of_getElem? (i := 48) rfl)))
theorem gm_S_36 : Cond.methodLink "CatchShares$Stock" (36) mn_S_allWeights ∈ GW := List.mem_append_right _ (List.mem_append_right _ (List.mem_append_left _ (List.mem_of_getElem? (i := 49) rfl)))
theorem gj_S_allWeights : Cond.instanceMethod mn_S_allWeights ∈ GW := List.mem_append_right _ (List.mem_append_right _ (List.mem_append_left _ (List.mem_of_getElem? (i := 50) rfl)))
theorem gs_S_allWeights : Cond.selects "CatchShares$Stock" mn_S_allWeights mn_S_allWeights ∈ GW := List.mem_append_right _ (List.mem_append_right _ (List.mem_append_left _ (List.mem_of_getElem? (i := 51) rfl)))
theorem gd_S_allWeights : Cond.code mn_S_allWeights prog_4_method_2_code (1) (Option.some FieldType.long) ∈ GW := List.mem_append_right _ (List.mem_append_right _ (List.mem_append_left _ (List.mem_of_getElem? (i := 52) rfl)))
theorem gm_S_32 : Cond.methodLink "CatchShares$Stock" (32) mn_S_sumOf ∈ GW := List.mem_append_right _ (List.mem_append_right _ (List.mem_append_left _ (List.mem_of_getElem? (i := 53) rfl)))
theorem gt_S_sumOf : Cond.static mn_S_sumOf ∈ GW := List.mem_append_right _ (List.mem_append_right _ (List.mem_append_left _ (List.mem_of_getElem? (i := 54) rfl)))
theorem gd_S_sumOf : Cond.code mn_S_sumOf prog_4_method_4_code (4) (Option.some FieldType.long) ∈ GW := List.mem_append_right _ (List.mem_append_right _ (List.mem_append_left _ (List.mem_of_getElem? (i := 55) rfl)))
theorem gm_S_43 : Cond.methodLink "CatchShares$Stock" (43) mn_S_rankByRest ∈ GW := List.mem_append_right _ (List.mem_append_right _ (List.mem_append_left _ (List.mem_of_getElem? (i := 56) rfl)))
theorem gj_S_rankByRest : Cond.instanceMethod mn_S_rankByRest ∈ GW := List.mem_append_right _ (List.mem_append_right _ (List.mem_append_left _ (List.mem_of_getElem? (i := 57) rfl)))
theorem gd_S_rankByRest : Cond.code mn_S_rankByRest prog_4_method_7_code (12) (Option.some FieldType.int) ∈ GW := List.mem_append_right _ (List.mem_append_right _ (List.mem_append_left _ (List.mem_of_getElem? (i := 58) rfl)))
theorem gm_S_50 : Cond.methodLink "CatchShares$Stock" (50) mn_S_restOf ∈ GW := List.mem_append_right _ (List.mem_append_right _ (List.mem_append_left _ (List.mem_of_getElem? (i := 59) rfl)))
theorem gj_S_restOf : Cond.instanceMethod mn_S_restOf ∈ GW := List.mem_append_right _ (List.mem_append_right _ (List.mem_append_right _ (List.mem_append_left _ (List.mem_of_getElem? (i := 0) rfl))))
theorem gd_S_restOf : Cond.code mn_S_restOf prog_4_method_8_code (6) (Option.some FieldType.long) ∈ GW := List.mem_append_right _ (List.mem_append_right _ (List.mem_append_right _ (List.mem_append_left _ (List.mem_of_getElem? (i := 1) rfl))))
theorem gm_C_93 : Cond.methodLink "CatchShares" (93) mn_C_carryOver ∈ GW := List.mem_append_right _ (List.mem_append_right _ (List.mem_append_right _ (List.mem_append_left _ (List.mem_of_getElem? (i := 2) rfl))))
theorem gj_C_carryOver : Cond.instanceMethod mn_C_carryOver ∈ GW := List.mem_append_right _ (List.mem_append_right _ (List.mem_append_right _ (List.mem_append_left _ (List.mem_of_getElem? (i := 3) rfl))))
theorem gd_C_carryOver : Cond.code mn_C_carryOver prog_1_method_39_code (4) none ∈ GW := List.mem_append_right _ (List.mem_append_right _ (List.mem_append_right _ (List.mem_append_left _ (List.mem_of_getElem? (i := 4) rfl))))
theorem gm_C_136 : Cond.methodLink "CatchShares" (136) mn_C_carriedOf ∈ GW := List.mem_append_right _ (List.mem_append_right _ (List.mem_append_right _ (List.mem_append_left _ (List.mem_of_getElem? (i := 5) rfl))))
theorem gj_C_carriedOf : Cond.instanceMethod mn_C_carriedOf ∈ GW := List.mem_append_right _ (List.mem_append_right _ (List.mem_append_right _ (List.mem_append_left _ (List.mem_of_getElem? (i := 6) rfl))))
theorem gd_C_carriedOf : Cond.code mn_C_carriedOf prog_1_method_38_code (5) (Option.some FieldType.long) ∈ GW := List.mem_append_right _ (List.mem_append_right _ (List.mem_append_right _ (List.mem_append_left _ (List.mem_of_getElem? (i := 7) rfl))))
theorem gm_C_133 : Cond.methodLink "CatchShares" (133) mn_C_overOf ∈ GW := List.mem_append_right _ (List.mem_append_right _ (List.mem_append_right _ (List.mem_append_left _ (List.mem_of_getElem? (i := 8) rfl))))
theorem gj_C_overOf : Cond.instanceMethod mn_C_overOf ∈ GW := List.mem_append_right _ (List.mem_append_right _ (List.mem_append_right _ (List.mem_append_left _ (List.mem_of_getElem? (i := 9) rfl))))
theorem gd_C_overOf : Cond.code mn_C_overOf prog_1_method_37_code (3) (Option.some FieldType.long) ∈ GW := List.mem_append_right _ (List.mem_append_right _ (List.mem_append_right _ (List.mem_append_left _ (List.mem_of_getElem? (i := 10) rfl))))
theorem gm_C_116 : Cond.methodLink "CatchShares" (116) mn_C_leftInAll ∈ GW := List.mem_append_right _ (List.mem_append_right _ (List.mem_append_right _ (List.mem_append_left _ (List.mem_of_getElem? (i := 11) rfl))))
theorem gj_C_leftInAll : Cond.instanceMethod mn_C_leftInAll ∈ GW := List.mem_append_right _ (List.mem_append_right _ (List.mem_append_right _ (List.mem_append_left _ (List.mem_of_getElem? (i := 12) rfl))))
theorem gd_C_leftInAll : Cond.code mn_C_leftInAll prog_1_method_36_code (3) (Option.some FieldType.long) ∈ GW := List.mem_append_right _ (List.mem_append_right _ (List.mem_append_right _ (List.mem_append_left _ (List.mem_of_getElem? (i := 13) rfl))))
theorem gk_C_198 : Cond.constant "CatchShares" (198) (99999) ∈ GW := List.mem_append_right _ (List.mem_append_right _ (List.mem_append_right _ (List.mem_append_left _ (List.mem_of_getElem? (i := 14) rfl))))
theorem gm_C_112 : Cond.methodLink "CatchShares" (112) mn_C_leftOn ∈ GW := List.mem_append_right _ (List.mem_append_right _ (List.mem_append_right _ (List.mem_append_left _ (List.mem_of_getElem? (i := 15) rfl))))
theorem gj_C_leftOn : Cond.instanceMethod mn_C_leftOn ∈ GW := List.mem_append_right _ (List.mem_append_right _ (List.mem_append_right _ (List.mem_append_left _ (List.mem_of_getElem? (i := 16) rfl))))
theorem gd_C_leftOn : Cond.code mn_C_leftOn prog_1_method_35_code (4) (Option.some FieldType.long) ∈ GW := List.mem_append_right _ (List.mem_append_right _ (List.mem_append_right _ (List.mem_append_left _ (List.mem_of_getElem? (i := 17) rfl))))
theorem gm_C_194 : Cond.methodLink "CatchShares" (194) mn_L_toldUpTo ∈ GW := List.mem_append_right _ (List.mem_append_right _ (List.mem_append_right _ (List.mem_append_left _ (List.mem_of_getElem? (i := 18) rfl))))
theorem gj_L_toldUpTo : Cond.instanceMethod mn_L_toldUpTo ∈ GW := List.mem_append_right _ (List.mem_append_right _ (List.mem_append_right _ (List.mem_append_left _ (List.mem_of_getElem? (i := 19) rfl))))
theorem gs_L_toldUpTo : Cond.selects "CatchShares$Landings" mn_L_toldUpTo mn_L_toldUpTo ∈ GW := List.mem_append_right _ (List.mem_append_right _ (List.mem_append_right _ (List.mem_append_left _ (List.mem_of_getElem? (i := 20) rfl))))
theorem gd_L_toldUpTo : Cond.code mn_L_toldUpTo prog_2_method_3_code (7) (Option.some FieldType.long) ∈ GW := List.mem_append_right _ (List.mem_append_right _ (List.mem_append_right _ (List.mem_append_left _ (List.mem_of_getElem? (i := 21) rfl))))
theorem gm_C_170 : Cond.methodLink "CatchShares" (170) Lib.MathLoose.max_long.x ∈ GW := List.mem_append_right _ (List.mem_append_right _ (List.mem_append_right _ (List.mem_append_left _ (List.mem_of_getElem? (i := 22) rfl))))
theorem gt_max_long : Cond.static Lib.MathLoose.max_long.x ∈ GW := List.mem_append_right _ (List.mem_append_right _ (List.mem_append_right _ (List.mem_append_left _ (List.mem_of_getElem? (i := 23) rfl))))
theorem gd_max_long : Cond.code Lib.MathLoose.max_long.x prog_7_method_66_code (4) (Option.some FieldType.long) ∈ GW := List.mem_append_right _ (List.mem_append_right _ (List.mem_append_right _ (List.mem_append_left _ (List.mem_of_getElem? (i := 24) rfl))))
theorem gm_C_176 : Cond.methodLink "CatchShares" (176) mn_C_dividedUp ∈ GW := List.mem_append_right _ (List.mem_append_right _ (List.mem_append_right _ (List.mem_append_left _ (List.mem_of_getElem? (i := 25) rfl))))
theorem gt_C_dividedUp : Cond.static mn_C_dividedUp ∈ GW := List.mem_append_right _ (List.mem_append_right _ (List.mem_append_right _ (List.mem_append_left _ (List.mem_of_getElem? (i := 26) rfl))))
theorem gd_C_dividedUp : Cond.code mn_C_dividedUp prog_1_method_30_code (4) (Option.some FieldType.long) ∈ GW := List.mem_append_right _ (List.mem_append_right _ (List.mem_append_right _ (List.mem_append_left _ (List.mem_of_getElem? (i := 27) rfl))))
theorem gk_C_199 : Cond.constantLong "CatchShares" (199) (10) ∈ GW := List.mem_append_right _ (List.mem_append_right _ (List.mem_append_right _ (List.mem_append_left _ (List.mem_of_getElem? (i := 28) rfl))))
theorem gm_C_201 : Cond.methodLink "CatchShares" (201) Lib.MathLoose.min_long.x ∈ GW := List.mem_append_right _ (List.mem_append_right _ (List.mem_append_right _ (List.mem_append_left _ (List.mem_of_getElem? (i := 29) rfl))))
theorem gt_min_long : Cond.static Lib.MathLoose.min_long.x ∈ GW := List.mem_append_right _ (List.mem_append_right _ (List.mem_append_right _ (List.mem_append_left _ (List.mem_of_getElem? (i := 30) rfl))))
theorem gd_min_long : Cond.code Lib.MathLoose.min_long.x prog_7_method_70_code (4) (Option.some FieldType.long) ∈ GW := List.mem_append_right _ (List.mem_append_right _ (List.mem_append_right _ (List.mem_append_left _ (List.mem_of_getElem? (i := 31) rfl))))
theorem gm_C_204 : Cond.methodLink "CatchShares" (204) mn_S_carryIn ∈ GW := List.mem_append_right _ (List.mem_append_right _ (List.mem_append_right _ (List.mem_append_left _ (List.mem_of_getElem? (i := 32) rfl))))
theorem gj_S_carryIn : Cond.instanceMethod mn_S_carryIn ∈ GW := List.mem_append_right _ (List.mem_append_right _ (List.mem_append_right _ (List.mem_append_left _ (List.mem_of_getElem? (i := 33) rfl))))
theorem gs_S_carryIn : Cond.selects "CatchShares$Stock" mn_S_carryIn mn_S_carryIn ∈ GW := List.mem_append_right _ (List.mem_append_right _ (List.mem_append_right _ (List.mem_append_left _ (List.mem_of_getElem? (i := 34) rfl))))
theorem gd_S_carryIn : Cond.code mn_S_carryIn prog_4_method_9_code (6) none ∈ GW := List.mem_append_right _ (List.mem_append_right _ (List.mem_append_right _ (List.mem_append_left _ (List.mem_of_getElem? (i := 35) rfl))))
theorem gm_S_54 : Cond.methodLink "CatchShares$Stock" (54) Lib.MathLoose.max_long.x ∈ GW := List.mem_append_right _ (List.mem_append_right _ (List.mem_append_right _ (List.mem_append_left _ (List.mem_of_getElem? (i := 36) rfl))))
theorem gm_C_97 : Cond.methodLink "CatchShares" (97) mn_S_countShares ∈ GW := List.mem_append_right _ (List.mem_append_right _ (List.mem_append_right _ (List.mem_append_left _ (List.mem_of_getElem? (i := 37) rfl))))
theorem gj_S_countShares : Cond.instanceMethod mn_S_countShares ∈ GW := List.mem_append_right _ (List.mem_append_right _ (List.mem_append_right _ (List.mem_append_left _ (List.mem_of_getElem? (i := 38) rfl))))
theorem gs_S_countShares : Cond.selects "CatchShares$Stock" mn_S_countShares mn_S_countShares ∈ GW := List.mem_append_right _ (List.mem_append_right _ (List.mem_append_right _ (List.mem_append_left _ (List.mem_of_getElem? (i := 39) rfl))))
theorem gd_S_countShares : Cond.code mn_S_countShares prog_4_method_5_code (3) (Option.some FieldType.int) ∈ GW := List.mem_append_right _ (List.mem_append_right _ (List.mem_append_right _ (List.mem_append_left _ (List.mem_of_getElem? (i := 40) rfl))))
theorem gm_W_44 : Cond.methodLink "CatchSharesLaw" (44) mn_C_given ∈ GW := List.mem_append_right _ (List.mem_append_right _ (List.mem_append_right _ (List.mem_append_left _ (List.mem_of_getElem? (i := 41) rfl))))
theorem gj_C_given : Cond.instanceMethod mn_C_given ∈ GW := List.mem_append_right _ (List.mem_append_right _ (List.mem_append_right _ (List.mem_append_left _ (List.mem_of_getElem? (i := 42) rfl))))
theorem gs_C_given : Cond.selects "CatchShares" mn_C_given mn_C_given ∈ GW := List.mem_append_right _ (List.mem_append_right _ (List.mem_append_right _ (List.mem_append_left _ (List.mem_of_getElem? (i := 43) rfl))))
theorem gd_C_given : Cond.code mn_C_given prog_1_method_8_code (4) (Option.some FieldType.long) ∈ GW := List.mem_append_right _ (List.mem_append_right _ (List.mem_append_right _ (List.mem_append_left _ (List.mem_of_getElem? (i := 44) rfl))))
theorem gk_C_101 : Cond.constantLong "CatchShares" (101) (-1) ∈ GW := List.mem_append_right _ (List.mem_append_right _ (List.mem_append_right _ (List.mem_append_left _ (List.mem_of_getElem? (i := 45) rfl))))
theorem gm_W_49 : Cond.methodLink "CatchSharesLaw" (49) mn_C_land ∈ GW := List.mem_append_right _ (List.mem_append_right _ (List.mem_append_right _ (List.mem_append_left _ (List.mem_of_getElem? (i := 46) rfl))))
theorem gj_C_land : Cond.instanceMethod mn_C_land ∈ GW := List.mem_append_right _ (List.mem_append_right _ (List.mem_append_right _ (List.mem_append_left _ (List.mem_of_getElem? (i := 47) rfl))))
theorem gs_C_land : Cond.selects "CatchShares" mn_C_land mn_C_land ∈ GW := List.mem_append_right _ (List.mem_append_right _ (List.mem_append_right _ (List.mem_append_left _ (List.mem_of_getElem? (i := 48) rfl))))
theorem gd_C_land : Cond.code mn_C_land prog_1_method_9_code (8) (Option.some FieldType.boolean) ∈ GW := List.mem_append_right _ (List.mem_append_right _ (List.mem_append_right _ (List.mem_append_left _ (List.mem_of_getElem? (i := 49) rfl))))
theorem gk_C_106 : Cond.constantLong "CatchShares" (106) (99999) ∈ GW := List.mem_append_right _ (List.mem_append_right _ (List.mem_append_right _ (List.mem_append_left _ (List.mem_of_getElem? (i := 50) rfl))))
theorem gm_C_108 : Cond.methodLink "CatchShares" (108) mn_L_add ∈ GW := List.mem_append_right _ (List.mem_append_right _ (List.mem_append_right _ (List.mem_append_left _ (List.mem_of_getElem? (i := 51) rfl))))
theorem gj_L_add : Cond.instanceMethod mn_L_add ∈ GW := List.mem_append_right _ (List.mem_append_right _ (List.mem_append_right _ (List.mem_append_left _ (List.mem_of_getElem? (i := 52) rfl))))
theorem gs_L_add : Cond.selects "CatchShares$Landings" mn_L_add mn_L_add ∈ GW := List.mem_append_right _ (List.mem_append_right _ (List.mem_append_right _ (List.mem_append_left _ (List.mem_of_getElem? (i := 53) rfl))))
theorem gd_L_add : Cond.code mn_L_add prog_2_method_2_code (6) (Option.some FieldType.boolean) ∈ GW := List.mem_append_right _ (List.mem_append_right _ (List.mem_append_right _ (List.mem_append_left _ (List.mem_of_getElem? (i := 54) rfl))))
theorem gm_W_54 : Cond.methodLink "CatchSharesLaw" (54) mn_C_left ∈ GW := List.mem_append_right _ (List.mem_append_right _ (List.mem_append_right _ (List.mem_append_left _ (List.mem_of_getElem? (i := 55) rfl))))
theorem gj_C_left : Cond.instanceMethod mn_C_left ∈ GW := List.mem_append_right _ (List.mem_append_right _ (List.mem_append_right _ (List.mem_append_left _ (List.mem_of_getElem? (i := 56) rfl))))
theorem gs_C_left : Cond.selects "CatchShares" mn_C_left mn_C_left ∈ GW := List.mem_append_right _ (List.mem_append_right _ (List.mem_append_right _ (List.mem_append_left _ (List.mem_of_getElem? (i := 57) rfl))))
theorem gd_C_left : Cond.code mn_C_left prog_1_method_10_code (5) (Option.some FieldType.long) ∈ GW := List.mem_append_right _ (List.mem_append_right _ (List.mem_append_right _ (List.mem_append_left _ (List.mem_of_getElem? (i := 58) rfl))))
theorem gm_W_59 : Cond.methodLink "CatchSharesLaw" (59) mn_C_transfer ∈ GW := List.mem_append_right _ (List.mem_append_right _ (List.mem_append_right _ (List.mem_append_left _ (List.mem_of_getElem? (i := 59) rfl))))
theorem gj_C_transfer : Cond.instanceMethod mn_C_transfer ∈ GW := List.mem_append_right _ (List.mem_append_right _ (List.mem_append_right _ (List.mem_append_right _ (List.mem_append_left _ (List.mem_of_getElem? (i := 0) rfl)))))
theorem gs_C_transfer : Cond.selects "CatchShares" mn_C_transfer mn_C_transfer ∈ GW := List.mem_append_right _ (List.mem_append_right _ (List.mem_append_right _ (List.mem_append_right _ (List.mem_append_left _ (List.mem_of_getElem? (i := 1) rfl)))))
theorem gd_C_transfer : Cond.code mn_C_transfer prog_1_method_11_code (7) (Option.some FieldType.int) ∈ GW := List.mem_append_right _ (List.mem_append_right _ (List.mem_append_right _ (List.mem_append_right _ (List.mem_append_left _ (List.mem_of_getElem? (i := 2) rfl)))))
theorem gm_W_64 : Cond.methodLink "CatchSharesLaw" (64) mn_C_swap ∈ GW := List.mem_append_right _ (List.mem_append_right _ (List.mem_append_right _ (List.mem_append_right _ (List.mem_append_left _ (List.mem_of_getElem? (i := 3) rfl)))))
theorem gj_C_swap : Cond.instanceMethod mn_C_swap ∈ GW := List.mem_append_right _ (List.mem_append_right _ (List.mem_append_right _ (List.mem_append_right _ (List.mem_append_left _ (List.mem_of_getElem? (i := 4) rfl)))))
theorem gs_C_swap : Cond.selects "CatchShares" mn_C_swap mn_C_swap ∈ GW := List.mem_append_right _ (List.mem_append_right _ (List.mem_append_right _ (List.mem_append_right _ (List.mem_append_left _ (List.mem_of_getElem? (i := 5) rfl)))))
theorem gd_C_swap : Cond.code mn_C_swap prog_1_method_12_code (14) (Option.some FieldType.int) ∈ GW := List.mem_append_right _ (List.mem_append_right _ (List.mem_append_right _ (List.mem_append_right _ (List.mem_append_left _ (List.mem_of_getElem? (i := 6) rfl)))))
theorem gm_C_120 : Cond.methodLink "CatchShares" (120) mn_C_isFraction ∈ GW := List.mem_append_right _ (List.mem_append_right _ (List.mem_append_right _ (List.mem_append_right _ (List.mem_append_left _ (List.mem_of_getElem? (i := 7) rfl)))))
theorem gt_C_isFraction : Cond.static mn_C_isFraction ∈ GW := List.mem_append_right _ (List.mem_append_right _ (List.mem_append_right _ (List.mem_append_right _ (List.mem_append_left _ (List.mem_of_getElem? (i := 8) rfl)))))
theorem gd_C_isFraction : Cond.code mn_C_isFraction prog_1_method_29_code (2) (Option.some FieldType.boolean) ∈ GW := List.mem_append_right _ (List.mem_append_right _ (List.mem_append_right _ (List.mem_append_right _ (List.mem_append_left _ (List.mem_of_getElem? (i := 9) rfl)))))
theorem gk_C_192 : Cond.constantLong "CatchShares" (192) (1000) ∈ GW := List.mem_append_right _ (List.mem_append_right _ (List.mem_append_right _ (List.mem_append_right _ (List.mem_append_left _ (List.mem_of_getElem? (i := 10) rfl)))))
theorem gm_C_124 : Cond.methodLink "CatchShares" (124) mn_S_allShares ∈ GW := List.mem_append_right _ (List.mem_append_right _ (List.mem_append_right _ (List.mem_append_right _ (List.mem_append_left _ (List.mem_of_getElem? (i := 11) rfl)))))
theorem gj_S_allShares : Cond.instanceMethod mn_S_allShares ∈ GW := List.mem_append_right _ (List.mem_append_right _ (List.mem_append_right _ (List.mem_append_right _ (List.mem_append_left _ (List.mem_of_getElem? (i := 12) rfl)))))
theorem gs_S_allShares : Cond.selects "CatchShares$Stock" mn_S_allShares mn_S_allShares ∈ GW := List.mem_append_right _ (List.mem_append_right _ (List.mem_append_right _ (List.mem_append_right _ (List.mem_append_left _ (List.mem_of_getElem? (i := 13) rfl)))))
theorem gd_S_allShares : Cond.code mn_S_allShares prog_4_method_3_code (1) (Option.some FieldType.long) ∈ GW := List.mem_append_right _ (List.mem_append_right _ (List.mem_append_right _ (List.mem_append_right _ (List.mem_append_left _ (List.mem_of_getElem? (i := 14) rfl)))))
theorem gk_C_128 : Cond.constantLong "CatchShares" (128) (2000000000) ∈ GW := List.mem_append_right _ (List.mem_append_right _ (List.mem_append_right _ (List.mem_append_right _ (List.mem_append_left _ (List.mem_of_getElem? (i := 15) rfl)))))
theorem gm_C_130 : Cond.methodLink "CatchShares" (130) mn_S_swapShare ∈ GW := List.mem_append_right _ (List.mem_append_right _ (List.mem_append_right _ (List.mem_append_right _ (List.mem_append_left _ (List.mem_of_getElem? (i := 16) rfl)))))
theorem gj_S_swapShare : Cond.instanceMethod mn_S_swapShare ∈ GW := List.mem_append_right _ (List.mem_append_right _ (List.mem_append_right _ (List.mem_append_right _ (List.mem_append_left _ (List.mem_of_getElem? (i := 17) rfl)))))
theorem gs_S_swapShare : Cond.selects "CatchShares$Stock" mn_S_swapShare mn_S_swapShare ∈ GW := List.mem_append_right _ (List.mem_append_right _ (List.mem_append_right _ (List.mem_append_right _ (List.mem_append_left _ (List.mem_of_getElem? (i := 18) rfl)))))
theorem gd_S_swapShare : Cond.code mn_S_swapShare prog_4_method_10_code (4) none ∈ GW := List.mem_append_right _ (List.mem_append_right _ (List.mem_append_right _ (List.mem_append_right _ (List.mem_append_left _ (List.mem_of_getElem? (i := 19) rfl)))))
theorem gm_W_69 : Cond.methodLink "CatchSharesLaw" (69) mn_C_over ∈ GW := List.mem_append_right _ (List.mem_append_right _ (List.mem_append_right _ (List.mem_append_right _ (List.mem_append_left _ (List.mem_of_getElem? (i := 20) rfl)))))
theorem gj_C_over : Cond.instanceMethod mn_C_over ∈ GW := List.mem_append_right _ (List.mem_append_right _ (List.mem_append_right _ (List.mem_append_right _ (List.mem_append_left _ (List.mem_of_getElem? (i := 21) rfl)))))
theorem gs_C_over : Cond.selects "CatchShares" mn_C_over mn_C_over ∈ GW := List.mem_append_right _ (List.mem_append_right _ (List.mem_append_right _ (List.mem_append_right _ (List.mem_append_left _ (List.mem_of_getElem? (i := 22) rfl)))))
theorem gd_C_over : Cond.code mn_C_over prog_1_method_13_code (4) (Option.some FieldType.long) ∈ GW := List.mem_append_right _ (List.mem_append_right _ (List.mem_append_right _ (List.mem_append_right _ (List.mem_append_left _ (List.mem_of_getElem? (i := 23) rfl)))))
theorem gm_W_73 : Cond.methodLink "CatchSharesLaw" (73) mn_C_carried ∈ GW := List.mem_append_right _ (List.mem_append_right _ (List.mem_append_right _ (List.mem_append_right _ (List.mem_append_left _ (List.mem_of_getElem? (i := 24) rfl)))))
theorem gj_C_carried : Cond.instanceMethod mn_C_carried ∈ GW := List.mem_append_right _ (List.mem_append_right _ (List.mem_append_right _ (List.mem_append_right _ (List.mem_append_left _ (List.mem_of_getElem? (i := 25) rfl)))))
theorem gs_C_carried : Cond.selects "CatchShares" mn_C_carried mn_C_carried ∈ GW := List.mem_append_right _ (List.mem_append_right _ (List.mem_append_right _ (List.mem_append_right _ (List.mem_append_left _ (List.mem_of_getElem? (i := 26) rfl)))))
theorem gd_C_carried : Cond.code mn_C_carried prog_1_method_14_code (4) (Option.some FieldType.long) ∈ GW := List.mem_append_right _ (List.mem_append_right _ (List.mem_append_right _ (List.mem_append_right _ (List.mem_append_left _ (List.mem_of_getElem? (i := 27) rfl)))))
theorem gm_W_77 : Cond.methodLink "CatchSharesLaw" (77) mn_C_penalty ∈ GW := List.mem_append_right _ (List.mem_append_right _ (List.mem_append_right _ (List.mem_append_right _ (List.mem_append_left _ (List.mem_of_getElem? (i := 28) rfl)))))
theorem gj_C_penalty : Cond.instanceMethod mn_C_penalty ∈ GW := List.mem_append_right _ (List.mem_append_right _ (List.mem_append_right _ (List.mem_append_right _ (List.mem_append_left _ (List.mem_of_getElem? (i := 29) rfl)))))
theorem gs_C_penalty : Cond.selects "CatchShares" mn_C_penalty mn_C_penalty ∈ GW := List.mem_append_right _ (List.mem_append_right _ (List.mem_append_right _ (List.mem_append_right _ (List.mem_append_left _ (List.mem_of_getElem? (i := 30) rfl)))))
theorem gd_C_penalty : Cond.code mn_C_penalty prog_1_method_15_code (3) (Option.some FieldType.boolean) ∈ GW := List.mem_append_right _ (List.mem_append_right _ (List.mem_append_right _ (List.mem_append_right _ (List.mem_append_left _ (List.mem_of_getElem? (i := 31) rfl)))))
theorem gm_W_81 : Cond.methodLink "CatchSharesLaw" (81) mn_C_into ∈ GW := List.mem_append_right _ (List.mem_append_right _ (List.mem_append_right _ (List.mem_append_right _ (List.mem_append_left _ (List.mem_of_getElem? (i := 32) rfl)))))
theorem gj_C_into : Cond.instanceMethod mn_C_into ∈ GW := List.mem_append_right _ (List.mem_append_right _ (List.mem_append_right _ (List.mem_append_right _ (List.mem_append_left _ (List.mem_of_getElem? (i := 33) rfl)))))
theorem gs_C_into : Cond.selects "CatchShares" mn_C_into mn_C_into ∈ GW := List.mem_append_right _ (List.mem_append_right _ (List.mem_append_right _ (List.mem_append_right _ (List.mem_append_left _ (List.mem_of_getElem? (i := 34) rfl)))))
theorem gd_C_into : Cond.code mn_C_into prog_1_method_16_code (3) (Option.some FieldType.boolean) ∈ GW := List.mem_append_right _ (List.mem_append_right _ (List.mem_append_right _ (List.mem_append_right _ (List.mem_append_left _ (List.mem_of_getElem? (i := 35) rfl)))))
theorem gm_C_139 : Cond.methodLink "CatchShares" (139) mn_C_isPool ∈ GW := List.mem_append_right _ (List.mem_append_right _ (List.mem_append_right _ (List.mem_append_right _ (List.mem_append_left _ (List.mem_of_getElem? (i := 36) rfl)))))
theorem gt_C_isPool : Cond.static mn_C_isPool ∈ GW := List.mem_append_right _ (List.mem_append_right _ (List.mem_append_right _ (List.mem_append_right _ (List.mem_append_left _ (List.mem_of_getElem? (i := 37) rfl)))))
theorem gd_C_isPool : Cond.code mn_C_isPool prog_1_method_32_code (1) (Option.some FieldType.boolean) ∈ GW := List.mem_append_right _ (List.mem_append_right _ (List.mem_append_right _ (List.mem_append_right _ (List.mem_append_left _ (List.mem_of_getElem? (i := 38) rfl)))))
theorem gm_W_85 : Cond.methodLink "CatchSharesLaw" (85) mn_C_pooled ∈ GW := List.mem_append_right _ (List.mem_append_right _ (List.mem_append_right _ (List.mem_append_right _ (List.mem_append_left _ (List.mem_of_getElem? (i := 39) rfl)))))
theorem gj_C_pooled : Cond.instanceMethod mn_C_pooled ∈ GW := List.mem_append_right _ (List.mem_append_right _ (List.mem_append_right _ (List.mem_append_right _ (List.mem_append_left _ (List.mem_of_getElem? (i := 40) rfl)))))
theorem gs_C_pooled : Cond.selects "CatchShares" mn_C_pooled mn_C_pooled ∈ GW := List.mem_append_right _ (List.mem_append_right _ (List.mem_append_right _ (List.mem_append_right _ (List.mem_append_left _ (List.mem_of_getElem? (i := 41) rfl)))))
theorem gd_C_pooled : Cond.code mn_C_pooled prog_1_method_17_code (7) (Option.some FieldType.long) ∈ GW := List.mem_append_right _ (List.mem_append_right _ (List.mem_append_right _ (List.mem_append_right _ (List.mem_append_left _ (List.mem_of_getElem? (i := 42) rfl)))))
theorem gm_W_89 : Cond.methodLink "CatchSharesLaw" (89) mn_C_owns ∈ GW := List.mem_append_right _ (List.mem_append_right _ (List.mem_append_right _ (List.mem_append_right _ (List.mem_append_left _ (List.mem_of_getElem? (i := 43) rfl)))))
theorem gj_C_owns : Cond.instanceMethod mn_C_owns ∈ GW := List.mem_append_right _ (List.mem_append_right _ (List.mem_append_right _ (List.mem_append_right _ (List.mem_append_left _ (List.mem_of_getElem? (i := 44) rfl)))))
theorem gs_C_owns : Cond.selects "CatchShares" mn_C_owns mn_C_owns ∈ GW := List.mem_append_right _ (List.mem_append_right _ (List.mem_append_right _ (List.mem_append_right _ (List.mem_append_left _ (List.mem_of_getElem? (i := 45) rfl)))))
theorem gd_C_owns : Cond.code mn_C_owns prog_1_method_18_code (4) (Option.some FieldType.boolean) ∈ GW := List.mem_append_right _ (List.mem_append_right _ (List.mem_append_right _ (List.mem_append_right _ (List.mem_append_left _ (List.mem_of_getElem? (i := 46) rfl)))))
theorem gk_C_142 : Cond.constantLong "CatchShares" (142) (100) ∈ GW := List.mem_append_right _ (List.mem_append_right _ (List.mem_append_right _ (List.mem_append_right _ (List.mem_append_left _ (List.mem_of_getElem? (i := 47) rfl)))))
theorem gm_C_144 : Cond.methodLink "CatchShares" (144) mn_C_holdOf ∈ GW := List.mem_append_right _ (List.mem_append_right _ (List.mem_append_right _ (List.mem_append_right _ (List.mem_append_left _ (List.mem_of_getElem? (i := 48) rfl)))))
theorem gj_C_holdOf : Cond.instanceMethod mn_C_holdOf ∈ GW := List.mem_append_right _ (List.mem_append_right _ (List.mem_append_right _ (List.mem_append_right _ (List.mem_append_left _ (List.mem_of_getElem? (i := 49) rfl)))))
theorem gd_C_holdOf : Cond.code mn_C_holdOf prog_1_method_40_code (3) (Option.some FieldType.long) ∈ GW := List.mem_append_right _ (List.mem_append_right _ (List.mem_append_right _ (List.mem_append_right _ (List.mem_append_left _ (List.mem_of_getElem? (i := 50) rfl)))))
theorem gm_C_155 : Cond.methodLink "CatchShares" (155) mn_O_findHolds ∈ GW := List.mem_append_right _ (List.mem_append_right _ (List.mem_append_right _ (List.mem_append_right _ (List.mem_append_left _ (List.mem_of_getElem? (i := 51) rfl)))))
theorem gj_O_findHolds : Cond.instanceMethod mn_O_findHolds ∈ GW := List.mem_append_right _ (List.mem_append_right _ (List.mem_append_right _ (List.mem_append_right _ (List.mem_append_left _ (List.mem_of_getElem? (i := 52) rfl)))))
theorem gs_O_findHolds : Cond.selects "CatchShares$Owners" mn_O_findHolds mn_O_findHolds ∈ GW := List.mem_append_right _ (List.mem_append_right _ (List.mem_append_right _ (List.mem_append_right _ (List.mem_append_left _ (List.mem_of_getElem? (i := 53) rfl)))))
theorem gd_O_findHolds : Cond.code mn_O_findHolds prog_3_method_3_code (4) none ∈ GW := List.mem_append_right _ (List.mem_append_right _ (List.mem_append_right _ (List.mem_append_right _ (List.mem_append_left _ (List.mem_of_getElem? (i := 54) rfl)))))
theorem gk_O_25 : Cond.constantLong "CatchShares$Owners" (25) (1000000000000000000) ∈ GW := List.mem_append_right _ (List.mem_append_right _ (List.mem_append_right _ (List.mem_append_right _ (List.mem_append_left _ (List.mem_of_getElem? (i := 55) rfl)))))
theorem gm_O_27 : Cond.methodLink "CatchShares$Owners" (27) mn_O_lengthenWays ∈ GW := List.mem_append_right _ (List.mem_append_right _ (List.mem_append_right _ (List.mem_append_right _ (List.mem_append_left _ (List.mem_of_getElem? (i := 56) rfl)))))
theorem gj_O_lengthenWays : Cond.instanceMethod mn_O_lengthenWays ∈ GW := List.mem_append_right _ (List.mem_append_right _ (List.mem_append_right _ (List.mem_append_right _ (List.mem_append_left _ (List.mem_of_getElem? (i := 57) rfl)))))
theorem gd_O_lengthenWays : Cond.code mn_O_lengthenWays prog_3_method_5_code (5) none ∈ GW := List.mem_append_right _ (List.mem_append_right _ (List.mem_append_right _ (List.mem_append_right _ (List.mem_append_left _ (List.mem_of_getElem? (i := 58) rfl)))))
theorem gk_O_34 : Cond.constantLong "CatchShares$Owners" (34) (100) ∈ GW := List.mem_append_right _ (List.mem_append_right _ (List.mem_append_right _ (List.mem_append_right _ (List.mem_append_left _ (List.mem_of_getElem? (i := 59) rfl)))))
theorem gm_O_36 : Cond.methodLink "CatchShares$Owners" (36) arraycopyName ∈ GW := List.mem_append_right _ (List.mem_append_right _ (List.mem_append_right _ (List.mem_append_right _ (List.mem_append_right _ (List.mem_append_left _ (List.mem_of_getElem? (i := 0) rfl))))))
theorem gt_arraycopyName : Cond.static arraycopyName ∈ GW := List.mem_append_right _ (List.mem_append_right _ (List.mem_append_right _ (List.mem_append_right _ (List.mem_append_right _ (List.mem_append_left _ (List.mem_of_getElem? (i := 1) rfl))))))
theorem gv_arraycopyName : Cond.native arraycopyName ∈ GW := List.mem_append_right _ (List.mem_append_right _ (List.mem_append_right _ (List.mem_append_right _ (List.mem_append_right _ (List.mem_append_left _ (List.mem_of_getElem? (i := 2) rfl))))))
theorem gm_C_207 : Cond.methodLink "CatchShares" (207) mn_O_found ∈ GW := List.mem_append_right _ (List.mem_append_right _ (List.mem_append_right _ (List.mem_append_right _ (List.mem_append_right _ (List.mem_append_left _ (List.mem_of_getElem? (i := 3) rfl))))))
theorem gj_O_found : Cond.instanceMethod mn_O_found ∈ GW := List.mem_append_right _ (List.mem_append_right _ (List.mem_append_right _ (List.mem_append_right _ (List.mem_append_right _ (List.mem_append_left _ (List.mem_of_getElem? (i := 4) rfl))))))
theorem gs_O_found : Cond.selects "CatchShares$Owners" mn_O_found mn_O_found ∈ GW := List.mem_append_right _ (List.mem_append_right _ (List.mem_append_right _ (List.mem_append_right _ (List.mem_append_right _ (List.mem_append_left _ (List.mem_of_getElem? (i := 5) rfl))))))
theorem gd_O_found : Cond.code mn_O_found prog_3_method_4_code (2) (Option.some FieldType.long) ∈ GW := List.mem_append_right _ (List.mem_append_right _ (List.mem_append_right _ (List.mem_append_right _ (List.mem_append_right _ (List.mem_append_left _ (List.mem_of_getElem? (i := 6) rfl))))))
theorem gm_C_148 : Cond.methodLink "CatchShares" (148) mn_O_setPart ∈ GW := List.mem_append_right _ (List.mem_append_right _ (List.mem_append_right _ (List.mem_append_right _ (List.mem_append_right _ (List.mem_append_left _ (List.mem_of_getElem? (i := 7) rfl))))))
theorem gj_O_setPart : Cond.instanceMethod mn_O_setPart ∈ GW := List.mem_append_right _ (List.mem_append_right _ (List.mem_append_right _ (List.mem_append_right _ (List.mem_append_right _ (List.mem_append_left _ (List.mem_of_getElem? (i := 8) rfl))))))
theorem gs_O_setPart : Cond.selects "CatchShares$Owners" mn_O_setPart mn_O_setPart ∈ GW := List.mem_append_right _ (List.mem_append_right _ (List.mem_append_right _ (List.mem_append_right _ (List.mem_append_right _ (List.mem_append_left _ (List.mem_of_getElem? (i := 9) rfl))))))
theorem gd_O_setPart : Cond.code mn_O_setPart prog_3_method_2_code (6) (Option.some FieldType.boolean) ∈ GW := List.mem_append_right _ (List.mem_append_right _ (List.mem_append_right _ (List.mem_append_right _ (List.mem_append_right _ (List.mem_append_left _ (List.mem_of_getElem? (i := 10) rfl))))))
theorem gm_W_94 : Cond.methodLink "CatchSharesLaw" (94) mn_C_hold ∈ GW := List.mem_append_right _ (List.mem_append_right _ (List.mem_append_right _ (List.mem_append_right _ (List.mem_append_right _ (List.mem_append_left _ (List.mem_of_getElem? (i := 11) rfl))))))
theorem gj_C_hold : Cond.instanceMethod mn_C_hold ∈ GW := List.mem_append_right _ (List.mem_append_right _ (List.mem_append_right _ (List.mem_append_right _ (List.mem_append_right _ (List.mem_append_left _ (List.mem_of_getElem? (i := 12) rfl))))))
theorem gs_C_hold : Cond.selects "CatchShares" mn_C_hold mn_C_hold ∈ GW := List.mem_append_right _ (List.mem_append_right _ (List.mem_append_right _ (List.mem_append_right _ (List.mem_append_right _ (List.mem_append_left _ (List.mem_of_getElem? (i := 13) rfl))))))
theorem gd_C_hold : Cond.code mn_C_hold prog_1_method_19_code (3) (Option.some FieldType.long) ∈ GW := List.mem_append_right _ (List.mem_append_right _ (List.mem_append_right _ (List.mem_append_right _ (List.mem_append_right _ (List.mem_append_left _ (List.mem_of_getElem? (i := 14) rfl))))))
theorem gm_W_98 : Cond.methodLink "CatchSharesLaw" (98) mn_C_cap ∈ GW := List.mem_append_right _ (List.mem_append_right _ (List.mem_append_right _ (List.mem_append_right _ (List.mem_append_right _ (List.mem_append_left _ (List.mem_of_getElem? (i := 15) rfl))))))
theorem gj_C_cap : Cond.instanceMethod mn_C_cap ∈ GW := List.mem_append_right _ (List.mem_append_right _ (List.mem_append_right _ (List.mem_append_right _ (List.mem_append_right _ (List.mem_append_left _ (List.mem_of_getElem? (i := 16) rfl))))))
theorem gs_C_cap : Cond.selects "CatchShares" mn_C_cap mn_C_cap ∈ GW := List.mem_append_right _ (List.mem_append_right _ (List.mem_append_right _ (List.mem_append_right _ (List.mem_append_right _ (List.mem_append_left _ (List.mem_of_getElem? (i := 17) rfl))))))
theorem gd_C_cap : Cond.code mn_C_cap prog_1_method_20_code (4) (Option.some FieldType.boolean) ∈ GW := List.mem_append_right _ (List.mem_append_right _ (List.mem_append_right _ (List.mem_append_right _ (List.mem_append_right _ (List.mem_append_left _ (List.mem_of_getElem? (i := 18) rfl))))))
theorem gm_W_102 : Cond.methodLink "CatchSharesLaw" (102) mn_C_capped ∈ GW := List.mem_append_right _ (List.mem_append_right _ (List.mem_append_right _ (List.mem_append_right _ (List.mem_append_right _ (List.mem_append_left _ (List.mem_of_getElem? (i := 19) rfl))))))
theorem gj_C_capped : Cond.instanceMethod mn_C_capped ∈ GW := List.mem_append_right _ (List.mem_append_right _ (List.mem_append_right _ (List.mem_append_right _ (List.mem_append_right _ (List.mem_append_left _ (List.mem_of_getElem? (i := 20) rfl))))))
theorem gs_C_capped : Cond.selects "CatchShares" mn_C_capped mn_C_capped ∈ GW := List.mem_append_right _ (List.mem_append_right _ (List.mem_append_right _ (List.mem_append_right _ (List.mem_append_right _ (List.mem_append_left _ (List.mem_of_getElem? (i := 21) rfl))))))
theorem gd_C_capped : Cond.code mn_C_capped prog_1_method_21_code (4) (Option.some FieldType.boolean) ∈ GW := List.mem_append_right _ (List.mem_append_right _ (List.mem_append_right _ (List.mem_append_right _ (List.mem_append_right _ (List.mem_append_left _ (List.mem_of_getElem? (i := 22) rfl))))))
theorem gm_C_159 : Cond.methodLink "CatchShares" (159) mn_C_isAboveCap ∈ GW := List.mem_append_right _ (List.mem_append_right _ (List.mem_append_right _ (List.mem_append_right _ (List.mem_append_right _ (List.mem_append_left _ (List.mem_of_getElem? (i := 23) rfl))))))
theorem gj_C_isAboveCap : Cond.instanceMethod mn_C_isAboveCap ∈ GW := List.mem_append_right _ (List.mem_append_right _ (List.mem_append_right _ (List.mem_append_right _ (List.mem_append_right _ (List.mem_append_left _ (List.mem_of_getElem? (i := 24) rfl))))))
theorem gd_C_isAboveCap : Cond.code mn_C_isAboveCap prog_1_method_41_code (9) (Option.some FieldType.boolean) ∈ GW := List.mem_append_right _ (List.mem_append_right _ (List.mem_append_right _ (List.mem_append_right _ (List.mem_append_right _ (List.mem_append_left _ (List.mem_of_getElem? (i := 25) rfl))))))
theorem gm_C_210 : Cond.methodLink "CatchShares" (210) mn_S_allWeights ∈ GW := List.mem_append_right _ (List.mem_append_right _ (List.mem_append_right _ (List.mem_append_right _ (List.mem_append_right _ (List.mem_append_left _ (List.mem_of_getElem? (i := 26) rfl))))))
theorem gk_C_213 : Cond.constantLong "CatchShares" (213) (10000000) ∈ GW := List.mem_append_right _ (List.mem_append_right _ (List.mem_append_right _ (List.mem_append_right _ (List.mem_append_right _ (List.mem_append_left _ (List.mem_of_getElem? (i := 27) rfl))))))
theorem gm_W_107 : Cond.methodLink "CatchSharesLaw" (107) mn_C_choke ∈ GW := List.mem_append_right _ (List.mem_append_right _ (List.mem_append_right _ (List.mem_append_right _ (List.mem_append_right _ (List.mem_append_left _ (List.mem_of_getElem? (i := 28) rfl))))))
theorem gj_C_choke : Cond.instanceMethod mn_C_choke ∈ GW := List.mem_append_right _ (List.mem_append_right _ (List.mem_append_right _ (List.mem_append_right _ (List.mem_append_right _ (List.mem_append_left _ (List.mem_of_getElem? (i := 29) rfl))))))
theorem gs_C_choke : Cond.selects "CatchShares" mn_C_choke mn_C_choke ∈ GW := List.mem_append_right _ (List.mem_append_right _ (List.mem_append_right _ (List.mem_append_right _ (List.mem_append_right _ (List.mem_append_left _ (List.mem_of_getElem? (i := 30) rfl))))))
theorem gd_C_choke : Cond.code mn_C_choke prog_1_method_22_code (5) (Option.some FieldType.int) ∈ GW := List.mem_append_right _ (List.mem_append_right _ (List.mem_append_right _ (List.mem_append_right _ (List.mem_append_right _ (List.mem_append_left _ (List.mem_of_getElem? (i := 31) rfl))))))
theorem gm_C_163 : Cond.methodLink "CatchShares" (163) mn_C_isScarcer ∈ GW := List.mem_append_right _ (List.mem_append_right _ (List.mem_append_right _ (List.mem_append_right _ (List.mem_append_right _ (List.mem_append_left _ (List.mem_of_getElem? (i := 32) rfl))))))
theorem gj_C_isScarcer : Cond.instanceMethod mn_C_isScarcer ∈ GW := List.mem_append_right _ (List.mem_append_right _ (List.mem_append_right _ (List.mem_append_right _ (List.mem_append_right _ (List.mem_append_left _ (List.mem_of_getElem? (i := 33) rfl))))))
theorem gd_C_isScarcer : Cond.code mn_C_isScarcer prog_1_method_42_code (16) (Option.some FieldType.boolean) ∈ GW := List.mem_append_right _ (List.mem_append_right _ (List.mem_append_right _ (List.mem_append_right _ (List.mem_append_right _ (List.mem_append_left _ (List.mem_of_getElem? (i := 34) rfl))))))
theorem gm_C_215 : Cond.methodLink "CatchShares" (215) mn_J_floorDiv ∈ GW := List.mem_append_right _ (List.mem_append_right _ (List.mem_append_right _ (List.mem_append_right _ (List.mem_append_right _ (List.mem_append_left _ (List.mem_of_getElem? (i := 35) rfl))))))
theorem gt_J_floorDiv : Cond.static mn_J_floorDiv ∈ GW := List.mem_append_right _ (List.mem_append_right _ (List.mem_append_right _ (List.mem_append_right _ (List.mem_append_right _ (List.mem_append_left _ (List.mem_of_getElem? (i := 36) rfl))))))
theorem gd_J_floorDiv : Cond.code mn_J_floorDiv prog_7_method_49_code (6) (Option.some FieldType.long) ∈ GW := List.mem_append_right _ (List.mem_append_right _ (List.mem_append_right _ (List.mem_append_right _ (List.mem_append_right _ (List.mem_append_left _ (List.mem_of_getElem? (i := 37) rfl))))))
theorem gm_C_218 : Cond.methodLink "CatchShares" (218) mn_J_floorMod ∈ GW := List.mem_append_right _ (List.mem_append_right _ (List.mem_append_right _ (List.mem_append_right _ (List.mem_append_right _ (List.mem_append_left _ (List.mem_of_getElem? (i := 38) rfl))))))
theorem gt_J_floorMod : Cond.static mn_J_floorMod ∈ GW := List.mem_append_right _ (List.mem_append_right _ (List.mem_append_right _ (List.mem_append_right _ (List.mem_append_right _ (List.mem_append_left _ (List.mem_of_getElem? (i := 39) rfl))))))
theorem gd_J_floorMod : Cond.code mn_J_floorMod prog_7_method_52_code (6) (Option.some FieldType.long) ∈ GW := List.mem_append_right _ (List.mem_append_right _ (List.mem_append_right _ (List.mem_append_right _ (List.mem_append_right _ (List.mem_append_left _ (List.mem_of_getElem? (i := 40) rfl))))))
theorem gm_W_111 : Cond.methodLink "CatchSharesLaw" (111) mn_C_closes ∈ GW := List.mem_append_right _ (List.mem_append_right _ (List.mem_append_right _ (List.mem_append_right _ (List.mem_append_right _ (List.mem_append_left _ (List.mem_of_getElem? (i := 41) rfl))))))
theorem gj_C_closes : Cond.instanceMethod mn_C_closes ∈ GW := List.mem_append_right _ (List.mem_append_right _ (List.mem_append_right _ (List.mem_append_right _ (List.mem_append_right _ (List.mem_append_left _ (List.mem_of_getElem? (i := 42) rfl))))))
theorem gs_C_closes : Cond.selects "CatchShares" mn_C_closes mn_C_closes ∈ GW := List.mem_append_right _ (List.mem_append_right _ (List.mem_append_right _ (List.mem_append_right _ (List.mem_append_right _ (List.mem_append_left _ (List.mem_of_getElem? (i := 43) rfl))))))
theorem gd_C_closes : Cond.code mn_C_closes prog_1_method_23_code (8) (Option.some FieldType.long) ∈ GW := List.mem_append_right _ (List.mem_append_right _ (List.mem_append_right _ (List.mem_append_right _ (List.mem_append_right _ (List.mem_append_left _ (List.mem_of_getElem? (i := 44) rfl))))))
theorem gm_W_116 : Cond.methodLink "CatchSharesLaw" (116) mn_C_seen ∈ GW := List.mem_append_right _ (List.mem_append_right _ (List.mem_append_right _ (List.mem_append_right _ (List.mem_append_right _ (List.mem_append_left _ (List.mem_of_getElem? (i := 45) rfl))))))
theorem gj_C_seen : Cond.instanceMethod mn_C_seen ∈ GW := List.mem_append_right _ (List.mem_append_right _ (List.mem_append_right _ (List.mem_append_right _ (List.mem_append_right _ (List.mem_append_left _ (List.mem_of_getElem? (i := 46) rfl))))))
theorem gs_C_seen : Cond.selects "CatchShares" mn_C_seen mn_C_seen ∈ GW := List.mem_append_right _ (List.mem_append_right _ (List.mem_append_right _ (List.mem_append_right _ (List.mem_append_right _ (List.mem_append_left _ (List.mem_of_getElem? (i := 47) rfl))))))
theorem gd_C_seen : Cond.code mn_C_seen prog_1_method_24_code (7) (Option.some FieldType.boolean) ∈ GW := List.mem_append_right _ (List.mem_append_right _ (List.mem_append_right _ (List.mem_append_right _ (List.mem_append_right _ (List.mem_append_left _ (List.mem_of_getElem? (i := 48) rfl))))))
theorem gm_W_121 : Cond.methodLink "CatchSharesLaw" (121) mn_C_discard ∈ GW := List.mem_append_right _ (List.mem_append_right _ (List.mem_append_right _ (List.mem_append_right _ (List.mem_append_right _ (List.mem_append_left _ (List.mem_of_getElem? (i := 49) rfl))))))
theorem gj_C_discard : Cond.instanceMethod mn_C_discard ∈ GW := List.mem_append_right _ (List.mem_append_right _ (List.mem_append_right _ (List.mem_append_right _ (List.mem_append_right _ (List.mem_append_left _ (List.mem_of_getElem? (i := 50) rfl))))))
theorem gs_C_discard : Cond.selects "CatchShares" mn_C_discard mn_C_discard ∈ GW := List.mem_append_right _ (List.mem_append_right _ (List.mem_append_right _ (List.mem_append_right _ (List.mem_append_right _ (List.mem_append_left _ (List.mem_of_getElem? (i := 51) rfl))))))
theorem gd_C_discard : Cond.code mn_C_discard prog_1_method_25_code (3) (Option.some FieldType.long) ∈ GW := List.mem_append_right _ (List.mem_append_right _ (List.mem_append_right _ (List.mem_append_right _ (List.mem_append_right _ (List.mem_append_left _ (List.mem_of_getElem? (i := 52) rfl))))))
theorem gm_C_185 : Cond.methodLink "CatchShares" (185) mn_L_ofStock ∈ GW := List.mem_append_right _ (List.mem_append_right _ (List.mem_append_right _ (List.mem_append_right _ (List.mem_append_right _ (List.mem_append_left _ (List.mem_of_getElem? (i := 53) rfl))))))
theorem gj_L_ofStock : Cond.instanceMethod mn_L_ofStock ∈ GW := List.mem_append_right _ (List.mem_append_right _ (List.mem_append_right _ (List.mem_append_right _ (List.mem_append_right _ (List.mem_append_left _ (List.mem_of_getElem? (i := 54) rfl))))))
theorem gs_L_ofStock : Cond.selects "CatchShares$Landings" mn_L_ofStock mn_L_ofStock ∈ GW := List.mem_append_right _ (List.mem_append_right _ (List.mem_append_right _ (List.mem_append_right _ (List.mem_append_right _ (List.mem_append_left _ (List.mem_of_getElem? (i := 55) rfl))))))
theorem gd_L_ofStock : Cond.code mn_L_ofStock prog_2_method_4_code (5) (Option.some FieldType.long) ∈ GW := List.mem_append_right _ (List.mem_append_right _ (List.mem_append_right _ (List.mem_append_right _ (List.mem_append_right _ (List.mem_append_left _ (List.mem_of_getElem? (i := 56) rfl))))))
theorem gm_W_126 : Cond.methodLink "CatchSharesLaw" (126) mn_C_told ∈ GW := List.mem_append_right _ (List.mem_append_right _ (List.mem_append_right _ (List.mem_append_right _ (List.mem_append_right _ (List.mem_append_left _ (List.mem_of_getElem? (i := 57) rfl))))))
theorem gj_C_told : Cond.instanceMethod mn_C_told ∈ GW := List.mem_append_right _ (List.mem_append_right _ (List.mem_append_right _ (List.mem_append_right _ (List.mem_append_right _ (List.mem_append_left _ (List.mem_of_getElem? (i := 58) rfl))))))
theorem gs_C_told : Cond.selects "CatchShares" mn_C_told mn_C_told ∈ GW := List.mem_append_right _ (List.mem_append_right _ (List.mem_append_right _ (List.mem_append_right _ (List.mem_append_right _ (List.mem_append_left _ (List.mem_of_getElem? (i := 59) rfl))))))
theorem gd_C_told : Cond.code mn_C_told prog_1_method_26_code (4) (Option.some FieldType.long) ∈ GW := List.mem_append_right _ (List.mem_append_right _ (List.mem_append_right _ (List.mem_append_right _ (List.mem_append_right _ (List.mem_append_right _ (List.mem_append_left _ (List.mem_of_getElem? (i := 0) rfl)))))))
theorem gm_W_130 : Cond.methodLink "CatchSharesLaw" (130) mn_C_sums ∈ GW := List.mem_append_right _ (List.mem_append_right _ (List.mem_append_right _ (List.mem_append_right _ (List.mem_append_right _ (List.mem_append_right _ (List.mem_append_left _ (List.mem_of_getElem? (i := 1) rfl)))))))
theorem gj_C_sums : Cond.instanceMethod mn_C_sums ∈ GW := List.mem_append_right _ (List.mem_append_right _ (List.mem_append_right _ (List.mem_append_right _ (List.mem_append_right _ (List.mem_append_right _ (List.mem_append_left _ (List.mem_of_getElem? (i := 2) rfl)))))))
theorem gs_C_sums : Cond.selects "CatchShares" mn_C_sums mn_C_sums ∈ GW := List.mem_append_right _ (List.mem_append_right _ (List.mem_append_right _ (List.mem_append_right _ (List.mem_append_right _ (List.mem_append_right _ (List.mem_append_left _ (List.mem_of_getElem? (i := 3) rfl)))))))
theorem gd_C_sums : Cond.code mn_C_sums prog_1_method_27_code (3) (Option.some FieldType.boolean) ∈ GW := List.mem_append_right _ (List.mem_append_right _ (List.mem_append_right _ (List.mem_append_right _ (List.mem_append_right _ (List.mem_append_right _ (List.mem_append_left _ (List.mem_of_getElem? (i := 4) rfl)))))))
theorem gc_W_10 : Cond.classLink "CatchSharesLaw" (10) "CatchSharesModel" ∈ GW := List.mem_append_right _ (List.mem_append_right _ (List.mem_append_right _ (List.mem_append_right _ (List.mem_append_right _ (List.mem_append_right _ (List.mem_append_left _ (List.mem_of_getElem? (i := 5) rfl)))))))
theorem gn_M : Cond.instantiable "CatchSharesModel" (25) ∈ GW := List.mem_append_right _ (List.mem_append_right _ (List.mem_append_right _ (List.mem_append_right _ (List.mem_append_right _ (List.mem_append_right _ (List.mem_append_left _ (List.mem_of_getElem? (i := 6) rfl)))))))
theorem gm_W_12 : Cond.methodLink "CatchSharesLaw" (12) mn_M_init ∈ GW := List.mem_append_right _ (List.mem_append_right _ (List.mem_append_right _ (List.mem_append_right _ (List.mem_append_right _ (List.mem_append_right _ (List.mem_append_left _ (List.mem_of_getElem? (i := 7) rfl)))))))
theorem gj_M_init : Cond.instanceMethod mn_M_init ∈ GW := List.mem_append_right _ (List.mem_append_right _ (List.mem_append_right _ (List.mem_append_right _ (List.mem_append_right _ (List.mem_append_right _ (List.mem_append_left _ (List.mem_of_getElem? (i := 8) rfl)))))))
theorem gd_M_init : Cond.code mn_M_init prog_6_method_1_code (1) none ∈ GW := List.mem_append_right _ (List.mem_append_right _ (List.mem_append_right _ (List.mem_append_right _ (List.mem_append_right _ (List.mem_append_right _ (List.mem_append_left _ (List.mem_of_getElem? (i := 9) rfl)))))))
theorem gm_M_1 : Cond.methodLink "CatchSharesModel" (1) objectInit ∈ GW := List.mem_append_right _ (List.mem_append_right _ (List.mem_append_right _ (List.mem_append_right _ (List.mem_append_right _ (List.mem_append_right _ (List.mem_append_left _ (List.mem_of_getElem? (i := 10) rfl)))))))
theorem gf_M_79 : Cond.fieldLink "CatchSharesModel" (79) "CatchSharesModel" "stocks" "I" ∈ GW := List.mem_append_right _ (List.mem_append_right _ (List.mem_append_right _ (List.mem_append_right _ (List.mem_append_right _ (List.mem_append_right _ (List.mem_append_left _ (List.mem_of_getElem? (i := 11) rfl)))))))
theorem gf_M_7 : Cond.fieldLink "CatchSharesModel" (7) "CatchSharesModel" "allowed" "[J" ∈ GW := List.mem_append_right _ (List.mem_append_right _ (List.mem_append_right _ (List.mem_append_right _ (List.mem_append_right _ (List.mem_append_right _ (List.mem_append_left _ (List.mem_of_getElem? (i := 12) rfl)))))))
theorem gf_M_13 : Cond.fieldLink "CatchSharesModel" (13) "CatchSharesModel" "aside" "[J" ∈ GW := List.mem_append_right _ (List.mem_append_right _ (List.mem_append_right _ (List.mem_append_right _ (List.mem_append_right _ (List.mem_append_right _ (List.mem_append_left _ (List.mem_of_getElem? (i := 13) rfl)))))))
theorem gf_M_16 : Cond.fieldLink "CatchSharesModel" (16) "CatchSharesModel" "follows" "[I" ∈ GW := List.mem_append_right _ (List.mem_append_right _ (List.mem_append_right _ (List.mem_append_right _ (List.mem_append_right _ (List.mem_append_right _ (List.mem_append_left _ (List.mem_of_getElem? (i := 14) rfl)))))))
theorem gf_M_20 : Cond.fieldLink "CatchSharesModel" (20) "CatchSharesModel" "isParted" "[Z" ∈ GW := List.mem_append_right _ (List.mem_append_right _ (List.mem_append_right _ (List.mem_append_right _ (List.mem_append_right _ (List.mem_append_right _ (List.mem_append_left _ (List.mem_of_getElem? (i := 15) rfl)))))))
theorem gf_M_24 : Cond.fieldLink "CatchSharesModel" (24) "CatchSharesModel" "caps" "[I" ∈ GW := List.mem_append_right _ (List.mem_append_right _ (List.mem_append_right _ (List.mem_append_right _ (List.mem_append_right _ (List.mem_append_right _ (List.mem_append_left _ (List.mem_of_getElem? (i := 16) rfl)))))))
theorem gf_M_27 : Cond.fieldLink "CatchSharesModel" (27) "CatchSharesModel" "extra" "[J" ∈ GW := List.mem_append_right _ (List.mem_append_right _ (List.mem_append_right _ (List.mem_append_right _ (List.mem_append_right _ (List.mem_append_right _ (List.mem_append_left _ (List.mem_of_getElem? (i := 17) rfl)))))))
theorem gf_M_30 : Cond.fieldLink "CatchSharesModel" (30) "CatchSharesModel" "kept" "[J" ∈ GW := List.mem_append_right _ (List.mem_append_right _ (List.mem_append_right _ (List.mem_append_right _ (List.mem_append_right _ (List.mem_append_right _ (List.mem_append_left _ (List.mem_of_getElem? (i := 18) rfl)))))))
theorem gf_M_33 : Cond.fieldLink "CatchSharesModel" (33) "CatchSharesModel" "thrownBack" "[J" ∈ GW := List.mem_append_right _ (List.mem_append_right _ (List.mem_append_right _ (List.mem_append_right _ (List.mem_append_right _ (List.mem_append_right _ (List.mem_append_left _ (List.mem_of_getElem? (i := 19) rfl)))))))
theorem gf_M_86 : Cond.fieldLink "CatchSharesModel" (86) "CatchSharesModel" "holders" "I" ∈ GW := List.mem_append_right _ (List.mem_append_right _ (List.mem_append_right _ (List.mem_append_right _ (List.mem_append_right _ (List.mem_append_right _ (List.mem_append_left _ (List.mem_of_getElem? (i := 20) rfl)))))))
theorem gf_M_36 : Cond.fieldLink "CatchSharesModel" (36) "CatchSharesModel" "owners" "[I" ∈ GW := List.mem_append_right _ (List.mem_append_right _ (List.mem_append_right _ (List.mem_append_right _ (List.mem_append_right _ (List.mem_append_right _ (List.mem_append_left _ (List.mem_of_getElem? (i := 21) rfl)))))))
theorem gf_M_39 : Cond.fieldLink "CatchSharesModel" (39) "CatchSharesModel" "pools" "[I" ∈ GW := List.mem_append_right _ (List.mem_append_right _ (List.mem_append_right _ (List.mem_append_right _ (List.mem_append_right _ (List.mem_append_right _ (List.mem_append_left _ (List.mem_of_getElem? (i := 22) rfl)))))))
theorem gf_M_42 : Cond.fieldLink "CatchSharesModel" (42) "CatchSharesModel" "weights" "[J" ∈ GW := List.mem_append_right _ (List.mem_append_right _ (List.mem_append_right _ (List.mem_append_right _ (List.mem_append_right _ (List.mem_append_right _ (List.mem_append_left _ (List.mem_of_getElem? (i := 23) rfl)))))))
theorem gf_M_45 : Cond.fieldLink "CatchSharesModel" (45) "CatchSharesModel" "shares" "[J" ∈ GW := List.mem_append_right _ (List.mem_append_right _ (List.mem_append_right _ (List.mem_append_right _ (List.mem_append_right _ (List.mem_append_right _ (List.mem_append_left _ (List.mem_of_getElem? (i := 24) rfl)))))))
theorem gf_M_48 : Cond.fieldLink "CatchSharesModel" (48) "CatchSharesModel" "rests" "[J" ∈ GW := List.mem_append_right _ (List.mem_append_right _ (List.mem_append_right _ (List.mem_append_right _ (List.mem_append_right _ (List.mem_append_right _ (List.mem_append_left _ (List.mem_of_getElem? (i := 25) rfl)))))))
theorem gf_M_115 : Cond.fieldLink "CatchSharesModel" (115) "CatchSharesModel" "landings" "I" ∈ GW := List.mem_append_right _ (List.mem_append_right _ (List.mem_append_right _ (List.mem_append_right _ (List.mem_append_right _ (List.mem_append_right _ (List.mem_append_left _ (List.mem_of_getElem? (i := 26) rfl)))))))
theorem gf_M_51 : Cond.fieldLink "CatchSharesModel" (51) "CatchSharesModel" "landedWhere" "[I" ∈ GW := List.mem_append_right _ (List.mem_append_right _ (List.mem_append_right _ (List.mem_append_right _ (List.mem_append_right _ (List.mem_append_right _ (List.mem_append_left _ (List.mem_of_getElem? (i := 27) rfl)))))))
theorem gf_M_54 : Cond.fieldLink "CatchSharesModel" (54) "CatchSharesModel" "landed" "[J" ∈ GW := List.mem_append_right _ (List.mem_append_right _ (List.mem_append_right _ (List.mem_append_right _ (List.mem_append_right _ (List.mem_append_right _ (List.mem_append_left _ (List.mem_of_getElem? (i := 28) rfl)))))))
theorem gf_M_57 : Cond.fieldLink "CatchSharesModel" (57) "CatchSharesModel" "toldOn" "[I" ∈ GW := List.mem_append_right _ (List.mem_append_right _ (List.mem_append_right _ (List.mem_append_right _ (List.mem_append_right _ (List.mem_append_right _ (List.mem_append_left _ (List.mem_of_getElem? (i := 29) rfl)))))))
theorem gf_M_60 : Cond.fieldLink "CatchSharesModel" (60) "CatchSharesModel" "penaltyAbove" "I" ∈ GW := List.mem_append_right _ (List.mem_append_right _ (List.mem_append_right _ (List.mem_append_right _ (List.mem_append_right _ (List.mem_append_right _ (List.mem_append_left _ (List.mem_of_getElem? (i := 30) rfl)))))))
theorem gf_M_64 : Cond.fieldLink "CatchSharesModel" (64) "CatchSharesModel" "penaltyBelow" "I" ∈ GW := List.mem_append_right _ (List.mem_append_right _ (List.mem_append_right _ (List.mem_append_right _ (List.mem_append_right _ (List.mem_append_right _ (List.mem_append_left _ (List.mem_of_getElem? (i := 31) rfl)))))))
theorem gf_M_67 : Cond.fieldLink "CatchSharesModel" (67) "CatchSharesModel" "own" "[I" ∈ GW := List.mem_append_right _ (List.mem_append_right _ (List.mem_append_right _ (List.mem_append_right _ (List.mem_append_right _ (List.mem_append_right _ (List.mem_append_left _ (List.mem_of_getElem? (i := 32) rfl)))))))
theorem gf_M_70 : Cond.fieldLink "CatchSharesModel" (70) "CatchSharesModel" "holds" "[J" ∈ GW := List.mem_append_right _ (List.mem_append_right _ (List.mem_append_right _ (List.mem_append_right _ (List.mem_append_right _ (List.mem_append_right _ (List.mem_append_left _ (List.mem_of_getElem? (i := 33) rfl)))))))
theorem gf_M_73 : Cond.fieldLink "CatchSharesModel" (73) "CatchSharesModel" "next" "[J" ∈ GW := List.mem_append_right _ (List.mem_append_right _ (List.mem_append_right _ (List.mem_append_right _ (List.mem_append_right _ (List.mem_append_right _ (List.mem_append_left _ (List.mem_of_getElem? (i := 34) rfl)))))))
theorem gf_M_76 : Cond.fieldLink "CatchSharesModel" (76) "CatchSharesModel" "all" "[J" ∈ GW := List.mem_append_right _ (List.mem_append_right _ (List.mem_append_right _ (List.mem_append_right _ (List.mem_append_right _ (List.mem_append_right _ (List.mem_append_left _ (List.mem_of_getElem? (i := 35) rfl)))))))
theorem ga_boolean : Cond.arrayClass FieldType.boolean ∈ GW := List.mem_append_right _ (List.mem_append_right _ (List.mem_append_right _ (List.mem_append_right _ (List.mem_append_right _ (List.mem_append_right _ (List.mem_append_right _ (List.mem_append_left _ (List.mem_of_getElem? (i := 1) rfl))))))))
theorem gm_W_19 : Cond.methodLink "CatchSharesLaw" (19) mn_M_stock ∈ GW := List.mem_append_right _ (List.mem_append_right _ (List.mem_append_right _ (List.mem_append_right _ (List.mem_append_right _ (List.mem_append_right _ (List.mem_append_right _ (List.mem_append_left _ (List.mem_of_getElem? (i := 2) rfl))))))))
theorem gj_M_stock : Cond.instanceMethod mn_M_stock ∈ GW := List.mem_append_right _ (List.mem_append_right _ (List.mem_append_right _ (List.mem_append_right _ (List.mem_append_right _ (List.mem_append_right _ (List.mem_append_right _ (List.mem_append_left _ (List.mem_of_getElem? (i := 3) rfl))))))))
theorem gs_M_stock : Cond.selects "CatchSharesModel" mn_M_stock mn_M_stock ∈ GW := List.mem_append_right _ (List.mem_append_right _ (List.mem_append_right _ (List.mem_append_right _ (List.mem_append_right _ (List.mem_append_right _ (List.mem_append_right _ (List.mem_append_left _ (List.mem_of_getElem? (i := 4) rfl))))))))
theorem gd_M_stock : Cond.code mn_M_stock prog_6_method_6_code (3) (Option.some FieldType.int) ∈ GW := List.mem_append_right _ (List.mem_append_right _ (List.mem_append_right _ (List.mem_append_right _ (List.mem_append_right _ (List.mem_append_right _ (List.mem_append_right _ (List.mem_append_left _ (List.mem_of_getElem? (i := 5) rfl))))))))
theorem gk_M_91 : Cond.constantLong "CatchSharesModel" (91) (1000000000) ∈ GW := List.mem_append_right _ (List.mem_append_right _ (List.mem_append_right _ (List.mem_append_right _ (List.mem_append_right _ (List.mem_append_right _ (List.mem_append_right _ (List.mem_append_left _ (List.mem_of_getElem? (i := 6) rfl))))))))
theorem gm_M_82 : Cond.methodLink "CatchSharesModel" (82) mn_M_in ∈ GW := List.mem_append_right _ (List.mem_append_right _ (List.mem_append_right _ (List.mem_append_right _ (List.mem_append_right _ (List.mem_append_right _ (List.mem_append_right _ (List.mem_append_left _ (List.mem_of_getElem? (i := 7) rfl))))))))
theorem gt_M_in : Cond.static mn_M_in ∈ GW := List.mem_append_right _ (List.mem_append_right _ (List.mem_append_right _ (List.mem_append_right _ (List.mem_append_right _ (List.mem_append_right _ (List.mem_append_right _ (List.mem_append_left _ (List.mem_of_getElem? (i := 8) rfl))))))))
theorem gd_M_in : Cond.code mn_M_in prog_6_method_2_code (6) (Option.some FieldType.boolean) ∈ GW := List.mem_append_right _ (List.mem_append_right _ (List.mem_append_right _ (List.mem_append_right _ (List.mem_append_right _ (List.mem_append_right _ (List.mem_append_right _ (List.mem_append_left _ (List.mem_of_getElem? (i := 9) rfl))))))))
theorem gm_W_24 : Cond.methodLink "CatchSharesLaw" (24) mn_M_holder ∈ GW := List.mem_append_right _ (List.mem_append_right _ (List.mem_append_right _ (List.mem_append_right _ (List.mem_append_right _ (List.mem_append_right _ (List.mem_append_right _ (List.mem_append_left _ (List.mem_of_getElem? (i := 10) rfl))))))))
theorem gj_M_holder : Cond.instanceMethod mn_M_holder ∈ GW := List.mem_append_right _ (List.mem_append_right _ (List.mem_append_right _ (List.mem_append_right _ (List.mem_append_right _ (List.mem_append_right _ (List.mem_append_right _ (List.mem_append_left _ (List.mem_of_getElem? (i := 11) rfl))))))))
theorem gs_M_holder : Cond.selects "CatchSharesModel" mn_M_holder mn_M_holder ∈ GW := List.mem_append_right _ (List.mem_append_right _ (List.mem_append_right _ (List.mem_append_right _ (List.mem_append_right _ (List.mem_append_right _ (List.mem_append_right _ (List.mem_append_left _ (List.mem_of_getElem? (i := 12) rfl))))))))
theorem gd_M_holder : Cond.code mn_M_holder prog_6_method_7_code (2) (Option.some FieldType.int) ∈ GW := List.mem_append_right _ (List.mem_append_right _ (List.mem_append_right _ (List.mem_append_right _ (List.mem_append_right _ (List.mem_append_right _ (List.mem_append_right _ (List.mem_append_left _ (List.mem_of_getElem? (i := 13) rfl))))))))
theorem gm_M_93 : Cond.methodLink "CatchSharesModel" (93) mn_M_isOwner ∈ GW := List.mem_append_right _ (List.mem_append_right _ (List.mem_append_right _ (List.mem_append_right _ (List.mem_append_right _ (List.mem_append_right _ (List.mem_append_right _ (List.mem_append_left _ (List.mem_of_getElem? (i := 14) rfl))))))))
theorem gt_M_isOwner : Cond.static mn_M_isOwner ∈ GW := List.mem_append_right _ (List.mem_append_right _ (List.mem_append_right _ (List.mem_append_right _ (List.mem_append_right _ (List.mem_append_right _ (List.mem_append_right _ (List.mem_append_left _ (List.mem_of_getElem? (i := 15) rfl))))))))
theorem gd_M_isOwner : Cond.code mn_M_isOwner prog_6_method_5_code (1) (Option.some FieldType.boolean) ∈ GW := List.mem_append_right _ (List.mem_append_right _ (List.mem_append_right _ (List.mem_append_right _ (List.mem_append_right _ (List.mem_append_right _ (List.mem_append_right _ (List.mem_append_left _ (List.mem_of_getElem? (i := 16) rfl))))))))
theorem gk_M_89 : Cond.constantLong "CatchSharesModel" (89) (9) ∈ GW := List.mem_append_right _ (List.mem_append_right _ (List.mem_append_right _ (List.mem_append_right _ (List.mem_append_right _ (List.mem_append_right _ (List.mem_append_right _ (List.mem_append_left _ (List.mem_of_getElem? (i := 17) rfl))))))))
theorem gm_W_29 : Cond.methodLink "CatchSharesLaw" (29) mn_M_weight ∈ GW := List.mem_append_right _ (List.mem_append_right _ (List.mem_append_right _ (List.mem_append_right _ (List.mem_append_right _ (List.mem_append_right _ (List.mem_append_right _ (List.mem_append_left _ (List.mem_of_getElem? (i := 18) rfl))))))))
theorem gj_M_weight : Cond.instanceMethod mn_M_weight ∈ GW := List.mem_append_right _ (List.mem_append_right _ (List.mem_append_right _ (List.mem_append_right _ (List.mem_append_right _ (List.mem_append_right _ (List.mem_append_right _ (List.mem_append_left _ (List.mem_of_getElem? (i := 19) rfl))))))))
theorem gs_M_weight : Cond.selects "CatchSharesModel" mn_M_weight mn_M_weight ∈ GW := List.mem_append_right _ (List.mem_append_right _ (List.mem_append_right _ (List.mem_append_right _ (List.mem_append_right _ (List.mem_append_right _ (List.mem_append_right _ (List.mem_append_left _ (List.mem_of_getElem? (i := 20) rfl))))))))
theorem gd_M_weight : Cond.code mn_M_weight prog_6_method_8_code (5) (Option.some FieldType.boolean) ∈ GW := List.mem_append_right _ (List.mem_append_right _ (List.mem_append_right _ (List.mem_append_right _ (List.mem_append_right _ (List.mem_append_right _ (List.mem_append_right _ (List.mem_append_left _ (List.mem_of_getElem? (i := 21) rfl))))))))
theorem gm_M_97 : Cond.methodLink "CatchSharesModel" (97) mn_M_isStock ∈ GW := List.mem_append_right _ (List.mem_append_right _ (List.mem_append_right _ (List.mem_append_right _ (List.mem_append_right _ (List.mem_append_right _ (List.mem_append_right _ (List.mem_append_left _ (List.mem_of_getElem? (i := 22) rfl))))))))
theorem gj_M_isStock : Cond.instanceMethod mn_M_isStock ∈ GW := List.mem_append_right _ (List.mem_append_right _ (List.mem_append_right _ (List.mem_append_right _ (List.mem_append_right _ (List.mem_append_right _ (List.mem_append_right _ (List.mem_append_left _ (List.mem_of_getElem? (i := 23) rfl))))))))
theorem gd_M_isStock : Cond.code mn_M_isStock prog_6_method_3_code (2) (Option.some FieldType.boolean) ∈ GW := List.mem_append_right _ (List.mem_append_right _ (List.mem_append_right _ (List.mem_append_right _ (List.mem_append_right _ (List.mem_append_right _ (List.mem_append_right _ (List.mem_append_left _ (List.mem_of_getElem? (i := 24) rfl))))))))
theorem gm_M_100 : Cond.methodLink "CatchSharesModel" (100) mn_M_isHolder ∈ GW := List.mem_append_right _ (List.mem_append_right _ (List.mem_append_right _ (List.mem_append_right _ (List.mem_append_right _ (List.mem_append_right _ (List.mem_append_right _ (List.mem_append_left _ (List.mem_of_getElem? (i := 25) rfl))))))))
theorem gj_M_isHolder : Cond.instanceMethod mn_M_isHolder ∈ GW := List.mem_append_right _ (List.mem_append_right _ (List.mem_append_right _ (List.mem_append_right _ (List.mem_append_right _ (List.mem_append_right _ (List.mem_append_right _ (List.mem_append_left _ (List.mem_of_getElem? (i := 26) rfl))))))))
theorem gd_M_isHolder : Cond.code mn_M_isHolder prog_6_method_4_code (2) (Option.some FieldType.boolean) ∈ GW := List.mem_append_right _ (List.mem_append_right _ (List.mem_append_right _ (List.mem_append_right _ (List.mem_append_right _ (List.mem_append_right _ (List.mem_append_right _ (List.mem_append_left _ (List.mem_of_getElem? (i := 27) rfl))))))))
theorem gk_M_103 : Cond.constantLong "CatchSharesModel" (103) (1000000) ∈ GW := List.mem_append_right _ (List.mem_append_right _ (List.mem_append_right _ (List.mem_append_right _ (List.mem_append_right _ (List.mem_append_right _ (List.mem_append_right _ (List.mem_append_left _ (List.mem_of_getElem? (i := 28) rfl))))))))
theorem gm_W_34 : Cond.methodLink "CatchSharesLaw" (34) mn_M_aside ∈ GW := List.mem_append_right _ (List.mem_append_right _ (List.mem_append_right _ (List.mem_append_right _ (List.mem_append_right _ (List.mem_append_right _ (List.mem_append_right _ (List.mem_append_left _ (List.mem_of_getElem? (i := 29) rfl))))))))
theorem gj_M_aside : Cond.instanceMethod mn_M_aside ∈ GW := List.mem_append_right _ (List.mem_append_right _ (List.mem_append_right _ (List.mem_append_right _ (List.mem_append_right _ (List.mem_append_right _ (List.mem_append_right _ (List.mem_append_left _ (List.mem_of_getElem? (i := 30) rfl))))))))
theorem gs_M_aside : Cond.selects "CatchSharesModel" mn_M_aside mn_M_aside ∈ GW := List.mem_append_right _ (List.mem_append_right _ (List.mem_append_right _ (List.mem_append_right _ (List.mem_append_right _ (List.mem_append_right _ (List.mem_append_right _ (List.mem_append_left _ (List.mem_of_getElem? (i := 31) rfl))))))))
theorem gd_M_aside : Cond.code mn_M_aside prog_6_method_9_code (4) (Option.some FieldType.boolean) ∈ GW := List.mem_append_right _ (List.mem_append_right _ (List.mem_append_right _ (List.mem_append_right _ (List.mem_append_right _ (List.mem_append_right _ (List.mem_append_right _ (List.mem_append_left _ (List.mem_of_getElem? (i := 32) rfl))))))))
theorem gm_W_39 : Cond.methodLink "CatchSharesLaw" (39) mn_M_follows ∈ GW := List.mem_append_right _ (List.mem_append_right _ (List.mem_append_right _ (List.mem_append_right _ (List.mem_append_right _ (List.mem_append_right _ (List.mem_append_right _ (List.mem_append_left _ (List.mem_of_getElem? (i := 33) rfl))))))))
theorem gj_M_follows : Cond.instanceMethod mn_M_follows ∈ GW := List.mem_append_right _ (List.mem_append_right _ (List.mem_append_right _ (List.mem_append_right _ (List.mem_append_right _ (List.mem_append_right _ (List.mem_append_right _ (List.mem_append_left _ (List.mem_of_getElem? (i := 34) rfl))))))))
theorem gs_M_follows : Cond.selects "CatchSharesModel" mn_M_follows mn_M_follows ∈ GW := List.mem_append_right _ (List.mem_append_right _ (List.mem_append_right _ (List.mem_append_right _ (List.mem_append_right _ (List.mem_append_right _ (List.mem_append_right _ (List.mem_append_left _ (List.mem_of_getElem? (i := 35) rfl))))))))
theorem gd_M_follows : Cond.code mn_M_follows prog_6_method_10_code (3) (Option.some FieldType.boolean) ∈ GW := List.mem_append_right _ (List.mem_append_right _ (List.mem_append_right _ (List.mem_append_right _ (List.mem_append_right _ (List.mem_append_right _ (List.mem_append_right _ (List.mem_append_left _ (List.mem_of_getElem? (i := 36) rfl))))))))
theorem gm_W_43 : Cond.methodLink "CatchSharesLaw" (43) mn_M_part ∈ GW := List.mem_append_right _ (List.mem_append_right _ (List.mem_append_right _ (List.mem_append_right _ (List.mem_append_right _ (List.mem_append_right _ (List.mem_append_right _ (List.mem_append_left _ (List.mem_of_getElem? (i := 37) rfl))))))))
theorem gj_M_part : Cond.instanceMethod mn_M_part ∈ GW := List.mem_append_right _ (List.mem_append_right _ (List.mem_append_right _ (List.mem_append_right _ (List.mem_append_right _ (List.mem_append_right _ (List.mem_append_right _ (List.mem_append_left _ (List.mem_of_getElem? (i := 38) rfl))))))))
theorem gs_M_part : Cond.selects "CatchSharesModel" mn_M_part mn_M_part ∈ GW := List.mem_append_right _ (List.mem_append_right _ (List.mem_append_right _ (List.mem_append_right _ (List.mem_append_right _ (List.mem_append_right _ (List.mem_append_right _ (List.mem_append_left _ (List.mem_of_getElem? (i := 39) rfl))))))))
theorem gd_M_part : Cond.code mn_M_part prog_6_method_13_code (15) (Option.some FieldType.int) ∈ GW := List.mem_append_right _ (List.mem_append_right _ (List.mem_append_right _ (List.mem_append_right _ (List.mem_append_right _ (List.mem_append_right _ (List.mem_append_right _ (List.mem_append_left _ (List.mem_of_getElem? (i := 40) rfl))))))))
theorem gm_M_105 : Cond.methodLink "CatchSharesModel" (105) mn_M_allWeights ∈ GW := List.mem_append_right _ (List.mem_append_right _ (List.mem_append_right _ (List.mem_append_right _ (List.mem_append_right _ (List.mem_append_right _ (List.mem_append_right _ (List.mem_append_left _ (List.mem_of_getElem? (i := 41) rfl))))))))
theorem gj_M_allWeights : Cond.instanceMethod mn_M_allWeights ∈ GW := List.mem_append_right _ (List.mem_append_right _ (List.mem_append_right _ (List.mem_append_right _ (List.mem_append_right _ (List.mem_append_right _ (List.mem_append_right _ (List.mem_append_left _ (List.mem_of_getElem? (i := 42) rfl))))))))
theorem gd_M_allWeights : Cond.code mn_M_allWeights prog_6_method_11_code (5) (Option.some FieldType.long) ∈ GW := List.mem_append_right _ (List.mem_append_right _ (List.mem_append_right _ (List.mem_append_right _ (List.mem_append_right _ (List.mem_append_right _ (List.mem_append_right _ (List.mem_append_left _ (List.mem_of_getElem? (i := 43) rfl))))))))
theorem gk_M_109 : Cond.constantLong "CatchSharesModel" (109) (-1) ∈ GW := List.mem_append_right _ (List.mem_append_right _ (List.mem_append_right _ (List.mem_append_right _ (List.mem_append_right _ (List.mem_append_right _ (List.mem_append_right _ (List.mem_append_left _ (List.mem_of_getElem? (i := 44) rfl))))))))
theorem gm_M_111 : Cond.methodLink "CatchSharesModel" (111) mn_M_carriedOf ∈ GW := List.mem_append_right _ (List.mem_append_right _ (List.mem_append_right _ (List.mem_append_right _ (List.mem_append_right _ (List.mem_append_right _ (List.mem_append_right _ (List.mem_append_left _ (List.mem_of_getElem? (i := 45) rfl))))))))
theorem gj_M_carriedOf : Cond.instanceMethod mn_M_carriedOf ∈ GW := List.mem_append_right _ (List.mem_append_right _ (List.mem_append_right _ (List.mem_append_right _ (List.mem_append_right _ (List.mem_append_right _ (List.mem_append_right _ (List.mem_append_left _ (List.mem_of_getElem? (i := 46) rfl))))))))
theorem gd_M_carriedOf : Cond.code mn_M_carriedOf prog_6_method_20_code (9) (Option.some FieldType.long) ∈ GW := List.mem_append_right _ (List.mem_append_right _ (List.mem_append_right _ (List.mem_append_right _ (List.mem_append_right _ (List.mem_append_right _ (List.mem_append_right _ (List.mem_append_left _ (List.mem_of_getElem? (i := 47) rfl))))))))
theorem gm_M_128 : Cond.methodLink "CatchSharesModel" (128) mn_M_overOf ∈ GW := List.mem_append_right _ (List.mem_append_right _ (List.mem_append_right _ (List.mem_append_right _ (List.mem_append_right _ (List.mem_append_right _ (List.mem_append_right _ (List.mem_append_left _ (List.mem_of_getElem? (i := 48) rfl))))))))
theorem gj_M_overOf : Cond.instanceMethod mn_M_overOf ∈ GW := List.mem_append_right _ (List.mem_append_right _ (List.mem_append_right _ (List.mem_append_right _ (List.mem_append_right _ (List.mem_append_right _ (List.mem_append_right _ (List.mem_append_left _ (List.mem_of_getElem? (i := 49) rfl))))))))
theorem gd_M_overOf : Cond.code mn_M_overOf prog_6_method_19_code (5) (Option.some FieldType.long) ∈ GW := List.mem_append_right _ (List.mem_append_right _ (List.mem_append_right _ (List.mem_append_right _ (List.mem_append_right _ (List.mem_append_right _ (List.mem_append_right _ (List.mem_append_left _ (List.mem_of_getElem? (i := 50) rfl))))))))
theorem gm_M_125 : Cond.methodLink "CatchSharesModel" (125) mn_M_leftOf ∈ GW := List.mem_append_right _ (List.mem_append_right _ (List.mem_append_right _ (List.mem_append_right _ (List.mem_append_right _ (List.mem_append_right _ (List.mem_append_right _ (List.mem_append_left _ (List.mem_of_getElem? (i := 51) rfl))))))))
theorem gj_M_leftOf : Cond.instanceMethod mn_M_leftOf ∈ GW := List.mem_append_right _ (List.mem_append_right _ (List.mem_append_right _ (List.mem_append_right _ (List.mem_append_right _ (List.mem_append_right _ (List.mem_append_right _ (List.mem_append_left _ (List.mem_of_getElem? (i := 52) rfl))))))))
theorem gd_M_leftOf : Cond.code mn_M_leftOf prog_6_method_17_code (3) (Option.some FieldType.long) ∈ GW := List.mem_append_right _ (List.mem_append_right _ (List.mem_append_right _ (List.mem_append_right _ (List.mem_append_right _ (List.mem_append_right _ (List.mem_append_right _ (List.mem_append_left _ (List.mem_of_getElem? (i := 53) rfl))))))))
theorem gk_M_120 : Cond.constant "CatchSharesModel" (120) (99999) ∈ GW := List.mem_append_right _ (List.mem_append_right _ (List.mem_append_right _ (List.mem_append_right _ (List.mem_append_right _ (List.mem_append_right _ (List.mem_append_right _ (List.mem_append_left _ (List.mem_of_getElem? (i := 54) rfl))))))))
theorem gm_M_121 : Cond.methodLink "CatchSharesModel" (121) mn_M_leftOn ∈ GW := List.mem_append_right _ (List.mem_append_right _ (List.mem_append_right _ (List.mem_append_right _ (List.mem_append_right _ (List.mem_append_right _ (List.mem_append_right _ (List.mem_append_left _ (List.mem_of_getElem? (i := 55) rfl))))))))
theorem gj_M_leftOn : Cond.instanceMethod mn_M_leftOn ∈ GW := List.mem_append_right _ (List.mem_append_right _ (List.mem_append_right _ (List.mem_append_right _ (List.mem_append_right _ (List.mem_append_right _ (List.mem_append_right _ (List.mem_append_left _ (List.mem_of_getElem? (i := 56) rfl))))))))
theorem gd_M_leftOn : Cond.code mn_M_leftOn prog_6_method_16_code (7) (Option.some FieldType.long) ∈ GW := List.mem_append_right _ (List.mem_append_right _ (List.mem_append_right _ (List.mem_append_right _ (List.mem_append_right _ (List.mem_append_right _ (List.mem_append_right _ (List.mem_append_left _ (List.mem_of_getElem? (i := 57) rfl))))))))
theorem gk_M_131 : Cond.constantLong "CatchSharesModel" (131) (10) ∈ GW := List.mem_append_right _ (List.mem_append_right _ (List.mem_append_right _ (List.mem_append_right _ (List.mem_append_right _ (List.mem_append_right _ (List.mem_append_right _ (List.mem_append_left _ (List.mem_of_getElem? (i := 58) rfl))))))))
theorem gm_W_48 : Cond.methodLink "CatchSharesLaw" (48) mn_M_given ∈ GW := List.mem_append_right _ (List.mem_append_right _ (List.mem_append_right _ (List.mem_append_right _ (List.mem_append_right _ (List.mem_append_right _ (List.mem_append_right _ (List.mem_append_left _ (List.mem_of_getElem? (i := 59) rfl))))))))
theorem gj_M_given : Cond.instanceMethod mn_M_given ∈ GW := List.mem_append_right _ (List.mem_append_right _ (List.mem_append_right _ (List.mem_append_right _ (List.mem_append_right _ (List.mem_append_right _ (List.mem_append_right _ (List.mem_append_right _ (List.mem_append_left _ (List.mem_of_getElem? (i := 0) rfl)))))))))
theorem gs_M_given : Cond.selects "CatchSharesModel" mn_M_given mn_M_given ∈ GW := List.mem_append_right _ (List.mem_append_right _ (List.mem_append_right _ (List.mem_append_right _ (List.mem_append_right _ (List.mem_append_right _ (List.mem_append_right _ (List.mem_append_right _ (List.mem_append_left _ (List.mem_of_getElem? (i := 1) rfl)))))))))
theorem gd_M_given : Cond.code mn_M_given prog_6_method_14_code (3) (Option.some FieldType.long) ∈ GW := List.mem_append_right _ (List.mem_append_right _ (List.mem_append_right _ (List.mem_append_right _ (List.mem_append_right _ (List.mem_append_right _ (List.mem_append_right _ (List.mem_append_right _ (List.mem_append_left _ (List.mem_of_getElem? (i := 2) rfl)))))))))
theorem gm_W_53 : Cond.methodLink "CatchSharesLaw" (53) mn_M_land ∈ GW := List.mem_append_right _ (List.mem_append_right _ (List.mem_append_right _ (List.mem_append_right _ (List.mem_append_right _ (List.mem_append_right _ (List.mem_append_right _ (List.mem_append_right _ (List.mem_append_left _ (List.mem_of_getElem? (i := 3) rfl)))))))))
theorem gj_M_land : Cond.instanceMethod mn_M_land ∈ GW := List.mem_append_right _ (List.mem_append_right _ (List.mem_append_right _ (List.mem_append_right _ (List.mem_append_right _ (List.mem_append_right _ (List.mem_append_right _ (List.mem_append_right _ (List.mem_append_left _ (List.mem_of_getElem? (i := 4) rfl)))))))))
theorem gs_M_land : Cond.selects "CatchSharesModel" mn_M_land mn_M_land ∈ GW := List.mem_append_right _ (List.mem_append_right _ (List.mem_append_right _ (List.mem_append_right _ (List.mem_append_right _ (List.mem_append_right _ (List.mem_append_right _ (List.mem_append_right _ (List.mem_append_left _ (List.mem_of_getElem? (i := 5) rfl)))))))))
theorem gd_M_land : Cond.code mn_M_land prog_6_method_15_code (7) (Option.some FieldType.boolean) ∈ GW := List.mem_append_right _ (List.mem_append_right _ (List.mem_append_right _ (List.mem_append_right _ (List.mem_append_right _ (List.mem_append_right _ (List.mem_append_right _ (List.mem_append_right _ (List.mem_append_left _ (List.mem_of_getElem? (i := 6) rfl)))))))))
theorem gk_M_118 : Cond.constantLong "CatchSharesModel" (118) (99999) ∈ GW := List.mem_append_right _ (List.mem_append_right _ (List.mem_append_right _ (List.mem_append_right _ (List.mem_append_right _ (List.mem_append_right _ (List.mem_append_right _ (List.mem_append_right _ (List.mem_append_left _ (List.mem_of_getElem? (i := 7) rfl)))))))))
theorem gm_W_58 : Cond.methodLink "CatchSharesLaw" (58) mn_M_left ∈ GW := List.mem_append_right _ (List.mem_append_right _ (List.mem_append_right _ (List.mem_append_right _ (List.mem_append_right _ (List.mem_append_right _ (List.mem_append_right _ (List.mem_append_right _ (List.mem_append_left _ (List.mem_of_getElem? (i := 8) rfl)))))))))
theorem gj_M_left : Cond.instanceMethod mn_M_left ∈ GW := List.mem_append_right _ (List.mem_append_right _ (List.mem_append_right _ (List.mem_append_right _ (List.mem_append_right _ (List.mem_append_right _ (List.mem_append_right _ (List.mem_append_right _ (List.mem_append_left _ (List.mem_of_getElem? (i := 9) rfl)))))))))
theorem gs_M_left : Cond.selects "CatchSharesModel" mn_M_left mn_M_left ∈ GW := List.mem_append_right _ (List.mem_append_right _ (List.mem_append_right _ (List.mem_append_right _ (List.mem_append_right _ (List.mem_append_right _ (List.mem_append_right _ (List.mem_append_right _ (List.mem_append_left _ (List.mem_of_getElem? (i := 10) rfl)))))))))
theorem gd_M_left : Cond.code mn_M_left prog_6_method_18_code (4) (Option.some FieldType.long) ∈ GW := List.mem_append_right _ (List.mem_append_right _ (List.mem_append_right _ (List.mem_append_right _ (List.mem_append_right _ (List.mem_append_right _ (List.mem_append_right _ (List.mem_append_right _ (List.mem_append_left _ (List.mem_of_getElem? (i := 11) rfl)))))))))
theorem gm_W_72 : Cond.methodLink "CatchSharesLaw" (72) mn_M_over ∈ GW := List.mem_append_right _ (List.mem_append_right _ (List.mem_append_right _ (List.mem_append_right _ (List.mem_append_right _ (List.mem_append_right _ (List.mem_append_right _ (List.mem_append_right _ (List.mem_append_left _ (List.mem_of_getElem? (i := 12) rfl)))))))))
theorem gj_M_over : Cond.instanceMethod mn_M_over ∈ GW := List.mem_append_right _ (List.mem_append_right _ (List.mem_append_right _ (List.mem_append_right _ (List.mem_append_right _ (List.mem_append_right _ (List.mem_append_right _ (List.mem_append_right _ (List.mem_append_left _ (List.mem_of_getElem? (i := 13) rfl)))))))))
theorem gs_M_over : Cond.selects "CatchSharesModel" mn_M_over mn_M_over ∈ GW := List.mem_append_right _ (List.mem_append_right _ (List.mem_append_right _ (List.mem_append_right _ (List.mem_append_right _ (List.mem_append_right _ (List.mem_append_right _ (List.mem_append_right _ (List.mem_append_left _ (List.mem_of_getElem? (i := 14) rfl)))))))))
theorem gd_M_over : Cond.code mn_M_over prog_6_method_21_code (3) (Option.some FieldType.long) ∈ GW := List.mem_append_right _ (List.mem_append_right _ (List.mem_append_right _ (List.mem_append_right _ (List.mem_append_right _ (List.mem_append_right _ (List.mem_append_right _ (List.mem_append_right _ (List.mem_append_left _ (List.mem_of_getElem? (i := 15) rfl)))))))))
theorem gm_W_76 : Cond.methodLink "CatchSharesLaw" (76) mn_M_carried ∈ GW := List.mem_append_right _ (List.mem_append_right _ (List.mem_append_right _ (List.mem_append_right _ (List.mem_append_right _ (List.mem_append_right _ (List.mem_append_right _ (List.mem_append_right _ (List.mem_append_left _ (List.mem_of_getElem? (i := 16) rfl)))))))))
theorem gj_M_carried : Cond.instanceMethod mn_M_carried ∈ GW := List.mem_append_right _ (List.mem_append_right _ (List.mem_append_right _ (List.mem_append_right _ (List.mem_append_right _ (List.mem_append_right _ (List.mem_append_right _ (List.mem_append_right _ (List.mem_append_left _ (List.mem_of_getElem? (i := 17) rfl)))))))))
theorem gs_M_carried : Cond.selects "CatchSharesModel" mn_M_carried mn_M_carried ∈ GW := List.mem_append_right _ (List.mem_append_right _ (List.mem_append_right _ (List.mem_append_right _ (List.mem_append_right _ (List.mem_append_right _ (List.mem_append_right _ (List.mem_append_right _ (List.mem_append_left _ (List.mem_of_getElem? (i := 18) rfl)))))))))
theorem gd_M_carried : Cond.code mn_M_carried prog_6_method_22_code (3) (Option.some FieldType.long) ∈ GW := List.mem_append_right _ (List.mem_append_right _ (List.mem_append_right _ (List.mem_append_right _ (List.mem_append_right _ (List.mem_append_right _ (List.mem_append_right _ (List.mem_append_right _ (List.mem_append_left _ (List.mem_of_getElem? (i := 19) rfl)))))))))
theorem gm_W_80 : Cond.methodLink "CatchSharesLaw" (80) mn_M_penalty ∈ GW := List.mem_append_right _ (List.mem_append_right _ (List.mem_append_right _ (List.mem_append_right _ (List.mem_append_right _ (List.mem_append_right _ (List.mem_append_right _ (List.mem_append_right _ (List.mem_append_left _ (List.mem_of_getElem? (i := 20) rfl)))))))))
theorem gj_M_penalty : Cond.instanceMethod mn_M_penalty ∈ GW := List.mem_append_right _ (List.mem_append_right _ (List.mem_append_right _ (List.mem_append_right _ (List.mem_append_right _ (List.mem_append_right _ (List.mem_append_right _ (List.mem_append_right _ (List.mem_append_left _ (List.mem_of_getElem? (i := 21) rfl)))))))))
theorem gs_M_penalty : Cond.selects "CatchSharesModel" mn_M_penalty mn_M_penalty ∈ GW := List.mem_append_right _ (List.mem_append_right _ (List.mem_append_right _ (List.mem_append_right _ (List.mem_append_right _ (List.mem_append_right _ (List.mem_append_right _ (List.mem_append_right _ (List.mem_append_left _ (List.mem_of_getElem? (i := 22) rfl)))))))))
theorem gd_M_penalty : Cond.code mn_M_penalty prog_6_method_23_code (3) (Option.some FieldType.boolean) ∈ GW := List.mem_append_right _ (List.mem_append_right _ (List.mem_append_right _ (List.mem_append_right _ (List.mem_append_right _ (List.mem_append_right _ (List.mem_append_right _ (List.mem_append_right _ (List.mem_append_left _ (List.mem_of_getElem? (i := 23) rfl)))))))))
theorem gk_M_133 : Cond.constantLong "CatchSharesModel" (133) (1000) ∈ GW := List.mem_append_right _ (List.mem_append_right _ (List.mem_append_right _ (List.mem_append_right _ (List.mem_append_right _ (List.mem_append_right _ (List.mem_append_right _ (List.mem_append_right _ (List.mem_append_left _ (List.mem_of_getElem? (i := 24) rfl)))))))))
theorem gm_W_63 : Cond.methodLink "CatchSharesLaw" (63) mn_M_transfer ∈ GW := List.mem_append_right _ (List.mem_append_right _ (List.mem_append_right _ (List.mem_append_right _ (List.mem_append_right _ (List.mem_append_right _ (List.mem_append_right _ (List.mem_append_right _ (List.mem_append_left _ (List.mem_of_getElem? (i := 25) rfl)))))))))
theorem gj_M_transfer : Cond.instanceMethod mn_M_transfer ∈ GW := List.mem_append_right _ (List.mem_append_right _ (List.mem_append_right _ (List.mem_append_right _ (List.mem_append_right _ (List.mem_append_right _ (List.mem_append_right _ (List.mem_append_right _ (List.mem_append_left _ (List.mem_of_getElem? (i := 26) rfl)))))))))
theorem gs_M_transfer : Cond.selects "CatchSharesModel" mn_M_transfer mn_M_transfer ∈ GW := List.mem_append_right _ (List.mem_append_right _ (List.mem_append_right _ (List.mem_append_right _ (List.mem_append_right _ (List.mem_append_right _ (List.mem_append_right _ (List.mem_append_right _ (List.mem_append_left _ (List.mem_of_getElem? (i := 27) rfl)))))))))
theorem gd_M_transfer : Cond.code mn_M_transfer prog_6_method_24_code (6) (Option.some FieldType.int) ∈ GW := List.mem_append_right _ (List.mem_append_right _ (List.mem_append_right _ (List.mem_append_right _ (List.mem_append_right _ (List.mem_append_right _ (List.mem_append_right _ (List.mem_append_right _ (List.mem_append_left _ (List.mem_of_getElem? (i := 28) rfl)))))))))
theorem gm_W_68 : Cond.methodLink "CatchSharesLaw" (68) mn_M_swap ∈ GW := List.mem_append_right _ (List.mem_append_right _ (List.mem_append_right _ (List.mem_append_right _ (List.mem_append_right _ (List.mem_append_right _ (List.mem_append_right _ (List.mem_append_right _ (List.mem_append_left _ (List.mem_of_getElem? (i := 29) rfl)))))))))
theorem gj_M_swap : Cond.instanceMethod mn_M_swap ∈ GW := List.mem_append_right _ (List.mem_append_right _ (List.mem_append_right _ (List.mem_append_right _ (List.mem_append_right _ (List.mem_append_right _ (List.mem_append_right _ (List.mem_append_right _ (List.mem_append_left _ (List.mem_of_getElem? (i := 30) rfl)))))))))
theorem gs_M_swap : Cond.selects "CatchSharesModel" mn_M_swap mn_M_swap ∈ GW := List.mem_append_right _ (List.mem_append_right _ (List.mem_append_right _ (List.mem_append_right _ (List.mem_append_right _ (List.mem_append_right _ (List.mem_append_right _ (List.mem_append_right _ (List.mem_append_left _ (List.mem_of_getElem? (i := 31) rfl)))))))))
theorem gd_M_swap : Cond.code mn_M_swap prog_6_method_25_code (10) (Option.some FieldType.int) ∈ GW := List.mem_append_right _ (List.mem_append_right _ (List.mem_append_right _ (List.mem_append_right _ (List.mem_append_right _ (List.mem_append_right _ (List.mem_append_right _ (List.mem_append_right _ (List.mem_append_left _ (List.mem_of_getElem? (i := 32) rfl)))))))))
theorem gm_M_135 : Cond.methodLink "CatchSharesModel" (135) mn_M_allShares ∈ GW := List.mem_append_right _ (List.mem_append_right _ (List.mem_append_right _ (List.mem_append_right _ (List.mem_append_right _ (List.mem_append_right _ (List.mem_append_right _ (List.mem_append_right _ (List.mem_append_left _ (List.mem_of_getElem? (i := 33) rfl)))))))))
theorem gj_M_allShares : Cond.instanceMethod mn_M_allShares ∈ GW := List.mem_append_right _ (List.mem_append_right _ (List.mem_append_right _ (List.mem_append_right _ (List.mem_append_right _ (List.mem_append_right _ (List.mem_append_right _ (List.mem_append_right _ (List.mem_append_left _ (List.mem_of_getElem? (i := 34) rfl)))))))))
theorem gd_M_allShares : Cond.code mn_M_allShares prog_6_method_12_code (5) (Option.some FieldType.long) ∈ GW := List.mem_append_right _ (List.mem_append_right _ (List.mem_append_right _ (List.mem_append_right _ (List.mem_append_right _ (List.mem_append_right _ (List.mem_append_right _ (List.mem_append_right _ (List.mem_append_left _ (List.mem_of_getElem? (i := 35) rfl)))))))))
theorem gk_M_138 : Cond.constantLong "CatchSharesModel" (138) (2000000000) ∈ GW := List.mem_append_right _ (List.mem_append_right _ (List.mem_append_right _ (List.mem_append_right _ (List.mem_append_right _ (List.mem_append_right _ (List.mem_append_right _ (List.mem_append_right _ (List.mem_append_left _ (List.mem_of_getElem? (i := 36) rfl)))))))))
theorem gm_W_84 : Cond.methodLink "CatchSharesLaw" (84) mn_M_into ∈ GW := List.mem_append_right _ (List.mem_append_right _ (List.mem_append_right _ (List.mem_append_right _ (List.mem_append_right _ (List.mem_append_right _ (List.mem_append_right _ (List.mem_append_right _ (List.mem_append_left _ (List.mem_of_getElem? (i := 37) rfl)))))))))
theorem gj_M_into : Cond.instanceMethod mn_M_into ∈ GW := List.mem_append_right _ (List.mem_append_right _ (List.mem_append_right _ (List.mem_append_right _ (List.mem_append_right _ (List.mem_append_right _ (List.mem_append_right _ (List.mem_append_right _ (List.mem_append_left _ (List.mem_of_getElem? (i := 38) rfl)))))))))
theorem gs_M_into : Cond.selects "CatchSharesModel" mn_M_into mn_M_into ∈ GW := List.mem_append_right _ (List.mem_append_right _ (List.mem_append_right _ (List.mem_append_right _ (List.mem_append_right _ (List.mem_append_right _ (List.mem_append_right _ (List.mem_append_right _ (List.mem_append_left _ (List.mem_of_getElem? (i := 39) rfl)))))))))
theorem gd_M_into : Cond.code mn_M_into prog_6_method_26_code (3) (Option.some FieldType.boolean) ∈ GW := List.mem_append_right _ (List.mem_append_right _ (List.mem_append_right _ (List.mem_append_right _ (List.mem_append_right _ (List.mem_append_right _ (List.mem_append_right _ (List.mem_append_right _ (List.mem_append_left _ (List.mem_of_getElem? (i := 40) rfl)))))))))
theorem gk_M_140 : Cond.constantLong "CatchSharesModel" (140) (3) ∈ GW := List.mem_append_right _ (List.mem_append_right _ (List.mem_append_right _ (List.mem_append_right _ (List.mem_append_right _ (List.mem_append_right _ (List.mem_append_right _ (List.mem_append_right _ (List.mem_append_left _ (List.mem_of_getElem? (i := 41) rfl)))))))))
theorem gm_W_88 : Cond.methodLink "CatchSharesLaw" (88) mn_M_pooled ∈ GW := List.mem_append_right _ (List.mem_append_right _ (List.mem_append_right _ (List.mem_append_right _ (List.mem_append_right _ (List.mem_append_right _ (List.mem_append_right _ (List.mem_append_right _ (List.mem_append_left _ (List.mem_of_getElem? (i := 42) rfl)))))))))
theorem gj_M_pooled : Cond.instanceMethod mn_M_pooled ∈ GW := List.mem_append_right _ (List.mem_append_right _ (List.mem_append_right _ (List.mem_append_right _ (List.mem_append_right _ (List.mem_append_right _ (List.mem_append_right _ (List.mem_append_right _ (List.mem_append_left _ (List.mem_of_getElem? (i := 43) rfl)))))))))
theorem gs_M_pooled : Cond.selects "CatchSharesModel" mn_M_pooled mn_M_pooled ∈ GW := List.mem_append_right _ (List.mem_append_right _ (List.mem_append_right _ (List.mem_append_right _ (List.mem_append_right _ (List.mem_append_right _ (List.mem_append_right _ (List.mem_append_right _ (List.mem_append_left _ (List.mem_of_getElem? (i := 44) rfl)))))))))
theorem gd_M_pooled : Cond.code mn_M_pooled prog_6_method_27_code (6) (Option.some FieldType.long) ∈ GW := List.mem_append_right _ (List.mem_append_right _ (List.mem_append_right _ (List.mem_append_right _ (List.mem_append_right _ (List.mem_append_right _ (List.mem_append_right _ (List.mem_append_right _ (List.mem_append_left _ (List.mem_of_getElem? (i := 45) rfl)))))))))
theorem gm_W_93 : Cond.methodLink "CatchSharesLaw" (93) mn_M_owns ∈ GW := List.mem_append_right _ (List.mem_append_right _ (List.mem_append_right _ (List.mem_append_right _ (List.mem_append_right _ (List.mem_append_right _ (List.mem_append_right _ (List.mem_append_right _ (List.mem_append_left _ (List.mem_of_getElem? (i := 46) rfl)))))))))
theorem gj_M_owns : Cond.instanceMethod mn_M_owns ∈ GW := List.mem_append_right _ (List.mem_append_right _ (List.mem_append_right _ (List.mem_append_right _ (List.mem_append_right _ (List.mem_append_right _ (List.mem_append_right _ (List.mem_append_right _ (List.mem_append_left _ (List.mem_of_getElem? (i := 47) rfl)))))))))
theorem gs_M_owns : Cond.selects "CatchSharesModel" mn_M_owns mn_M_owns ∈ GW := List.mem_append_right _ (List.mem_append_right _ (List.mem_append_right _ (List.mem_append_right _ (List.mem_append_right _ (List.mem_append_right _ (List.mem_append_right _ (List.mem_append_right _ (List.mem_append_left _ (List.mem_of_getElem? (i := 48) rfl)))))))))
theorem gd_M_owns : Cond.code mn_M_owns prog_6_method_29_code (6) (Option.some FieldType.boolean) ∈ GW := List.mem_append_right _ (List.mem_append_right _ (List.mem_append_right _ (List.mem_append_right _ (List.mem_append_right _ (List.mem_append_right _ (List.mem_append_right _ (List.mem_append_right _ (List.mem_append_left _ (List.mem_of_getElem? (i := 49) rfl)))))))))
theorem gk_M_142 : Cond.constantLong "CatchSharesModel" (142) (100) ∈ GW := List.mem_append_right _ (List.mem_append_right _ (List.mem_append_right _ (List.mem_append_right _ (List.mem_append_right _ (List.mem_append_right _ (List.mem_append_right _ (List.mem_append_right _ (List.mem_append_left _ (List.mem_of_getElem? (i := 50) rfl)))))))))
theorem gm_M_144 : Cond.methodLink "CatchSharesModel" (144) mn_M_reaches ∈ GW := List.mem_append_right _ (List.mem_append_right _ (List.mem_append_right _ (List.mem_append_right _ (List.mem_append_right _ (List.mem_append_right _ (List.mem_append_right _ (List.mem_append_right _ (List.mem_append_left _ (List.mem_of_getElem? (i := 51) rfl)))))))))
theorem gj_M_reaches : Cond.instanceMethod mn_M_reaches ∈ GW := List.mem_append_right _ (List.mem_append_right _ (List.mem_append_right _ (List.mem_append_right _ (List.mem_append_right _ (List.mem_append_right _ (List.mem_append_right _ (List.mem_append_right _ (List.mem_append_left _ (List.mem_of_getElem? (i := 52) rfl)))))))))
theorem gd_M_reaches : Cond.code mn_M_reaches prog_6_method_28_code (6) (Option.some FieldType.boolean) ∈ GW := List.mem_append_right _ (List.mem_append_right _ (List.mem_append_right _ (List.mem_append_right _ (List.mem_append_right _ (List.mem_append_right _ (List.mem_append_right _ (List.mem_append_right _ (List.mem_append_left _ (List.mem_of_getElem? (i := 53) rfl)))))))))
theorem gm_W_97 : Cond.methodLink "CatchSharesLaw" (97) mn_M_hold ∈ GW := List.mem_append_right _ (List.mem_append_right _ (List.mem_append_right _ (List.mem_append_right _ (List.mem_append_right _ (List.mem_append_right _ (List.mem_append_right _ (List.mem_append_right _ (List.mem_append_left _ (List.mem_of_getElem? (i := 54) rfl)))))))))
theorem gj_M_hold : Cond.instanceMethod mn_M_hold ∈ GW := List.mem_append_right _ (List.mem_append_right _ (List.mem_append_right _ (List.mem_append_right _ (List.mem_append_right _ (List.mem_append_right _ (List.mem_append_right _ (List.mem_append_right _ (List.mem_append_left _ (List.mem_of_getElem? (i := 55) rfl)))))))))
theorem gs_M_hold : Cond.selects "CatchSharesModel" mn_M_hold mn_M_hold ∈ GW := List.mem_append_right _ (List.mem_append_right _ (List.mem_append_right _ (List.mem_append_right _ (List.mem_append_right _ (List.mem_append_right _ (List.mem_append_right _ (List.mem_append_right _ (List.mem_append_left _ (List.mem_of_getElem? (i := 56) rfl)))))))))
theorem gd_M_hold : Cond.code mn_M_hold prog_6_method_31_code (3) (Option.some FieldType.long) ∈ GW := List.mem_append_right _ (List.mem_append_right _ (List.mem_append_right _ (List.mem_append_right _ (List.mem_append_right _ (List.mem_append_right _ (List.mem_append_right _ (List.mem_append_right _ (List.mem_append_left _ (List.mem_of_getElem? (i := 57) rfl)))))))))
theorem gm_M_148 : Cond.methodLink "CatchSharesModel" (148) mn_M_findHolds ∈ GW := List.mem_append_right _ (List.mem_append_right _ (List.mem_append_right _ (List.mem_append_right _ (List.mem_append_right _ (List.mem_append_right _ (List.mem_append_right _ (List.mem_append_right _ (List.mem_append_left _ (List.mem_of_getElem? (i := 58) rfl)))))))))
theorem gj_M_findHolds : Cond.instanceMethod mn_M_findHolds ∈ GW := List.mem_append_right _ (List.mem_append_right _ (List.mem_append_right _ (List.mem_append_right _ (List.mem_append_right _ (List.mem_append_right _ (List.mem_append_right _ (List.mem_append_right _ (List.mem_append_left _ (List.mem_of_getElem? (i := 59) rfl)))))))))
theorem gd_M_findHolds : Cond.code mn_M_findHolds prog_6_method_30_code (7) none ∈ GW := List.mem_append_right _ (List.mem_append_right _ (List.mem_append_right _ (List.mem_append_right _ (List.mem_append_right _ (List.mem_append_right _ (List.mem_append_right _ (List.mem_append_right _ (List.mem_append_right _ (List.mem_of_getElem? (i := 0) rfl)))))))))
theorem gm_W_101 : Cond.methodLink "CatchSharesLaw" (101) mn_M_cap ∈ GW := List.mem_append_right _ (List.mem_append_right _ (List.mem_append_right _ (List.mem_append_right _ (List.mem_append_right _ (List.mem_append_right _ (List.mem_append_right _ (List.mem_append_right _ (List.mem_append_right _ (List.mem_of_getElem? (i := 1) rfl)))))))))
theorem gj_M_cap : Cond.instanceMethod mn_M_cap ∈ GW := List.mem_append_right _ (List.mem_append_right _ (List.mem_append_right _ (List.mem_append_right _ (List.mem_append_right _ (List.mem_append_right _ (List.mem_append_right _ (List.mem_append_right _ (List.mem_append_right _ (List.mem_of_getElem? (i := 2) rfl)))))))))
theorem gs_M_cap : Cond.selects "CatchSharesModel" mn_M_cap mn_M_cap ∈ GW := List.mem_append_right _ (List.mem_append_right _ (List.mem_append_right _ (List.mem_append_right _ (List.mem_append_right _ (List.mem_append_right _ (List.mem_append_right _ (List.mem_append_right _ (List.mem_append_right _ (List.mem_of_getElem? (i := 3) rfl)))))))))
theorem gd_M_cap : Cond.code mn_M_cap prog_6_method_32_code (3) (Option.some FieldType.boolean) ∈ GW := List.mem_append_right _ (List.mem_append_right _ (List.mem_append_right _ (List.mem_append_right _ (List.mem_append_right _ (List.mem_append_right _ (List.mem_append_right _ (List.mem_append_right _ (List.mem_append_right _ (List.mem_of_getElem? (i := 4) rfl)))))))))
theorem gm_W_106 : Cond.methodLink "CatchSharesLaw" (106) mn_M_capped ∈ GW := List.mem_append_right _ (List.mem_append_right _ (List.mem_append_right _ (List.mem_append_right _ (List.mem_append_right _ (List.mem_append_right _ (List.mem_append_right _ (List.mem_append_right _ (List.mem_append_right _ (List.mem_of_getElem? (i := 5) rfl)))))))))
theorem gj_M_capped : Cond.instanceMethod mn_M_capped ∈ GW := List.mem_append_right _ (List.mem_append_right _ (List.mem_append_right _ (List.mem_append_right _ (List.mem_append_right _ (List.mem_append_right _ (List.mem_append_right _ (List.mem_append_right _ (List.mem_append_right _ (List.mem_of_getElem? (i := 6) rfl)))))))))
theorem gs_M_capped : Cond.selects "CatchSharesModel" mn_M_capped mn_M_capped ∈ GW := List.mem_append_right _ (List.mem_append_right _ (List.mem_append_right _ (List.mem_append_right _ (List.mem_append_right _ (List.mem_append_right _ (List.mem_append_right _ (List.mem_append_right _ (List.mem_append_right _ (List.mem_of_getElem? (i := 7) rfl)))))))))
theorem gd_M_capped : Cond.code mn_M_capped prog_6_method_34_code (4) (Option.some FieldType.boolean) ∈ GW := List.mem_append_right _ (List.mem_append_right _ (List.mem_append_right _ (List.mem_append_right _ (List.mem_append_right _ (List.mem_append_right _ (List.mem_append_right _ (List.mem_append_right _ (List.mem_append_right _ (List.mem_of_getElem? (i := 8) rfl)))))))))
theorem gm_M_154 : Cond.methodLink "CatchSharesModel" (154) mn_M_isAbove ∈ GW := List.mem_append_right _ (List.mem_append_right _ (List.mem_append_right _ (List.mem_append_right _ (List.mem_append_right _ (List.mem_append_right _ (List.mem_append_right _ (List.mem_append_right _ (List.mem_append_right _ (List.mem_of_getElem? (i := 9) rfl)))))))))
theorem gj_M_isAbove : Cond.instanceMethod mn_M_isAbove ∈ GW := List.mem_append_right _ (List.mem_append_right _ (List.mem_append_right _ (List.mem_append_right _ (List.mem_append_right _ (List.mem_append_right _ (List.mem_append_right _ (List.mem_append_right _ (List.mem_append_right _ (List.mem_of_getElem? (i := 10) rfl)))))))))
theorem gd_M_isAbove : Cond.code mn_M_isAbove prog_6_method_33_code (10) (Option.some FieldType.boolean) ∈ GW := List.mem_append_right _ (List.mem_append_right _ (List.mem_append_right _ (List.mem_append_right _ (List.mem_append_right _ (List.mem_append_right _ (List.mem_append_right _ (List.mem_append_right _ (List.mem_append_right _ (List.mem_of_getElem? (i := 11) rfl)))))))))
theorem gk_M_152 : Cond.constantLong "CatchSharesModel" (152) (10000000) ∈ GW := List.mem_append_right _ (List.mem_append_right _ (List.mem_append_right _ (List.mem_append_right _ (List.mem_append_right _ (List.mem_append_right _ (List.mem_append_right _ (List.mem_append_right _ (List.mem_append_right _ (List.mem_of_getElem? (i := 12) rfl)))))))))
theorem gm_W_110 : Cond.methodLink "CatchSharesLaw" (110) mn_M_choke ∈ GW := List.mem_append_right _ (List.mem_append_right _ (List.mem_append_right _ (List.mem_append_right _ (List.mem_append_right _ (List.mem_append_right _ (List.mem_append_right _ (List.mem_append_right _ (List.mem_append_right _ (List.mem_of_getElem? (i := 13) rfl)))))))))
theorem gj_M_choke : Cond.instanceMethod mn_M_choke ∈ GW := List.mem_append_right _ (List.mem_append_right _ (List.mem_append_right _ (List.mem_append_right _ (List.mem_append_right _ (List.mem_append_right _ (List.mem_append_right _ (List.mem_append_right _ (List.mem_append_right _ (List.mem_of_getElem? (i := 14) rfl)))))))))
theorem gs_M_choke : Cond.selects "CatchSharesModel" mn_M_choke mn_M_choke ∈ GW := List.mem_append_right _ (List.mem_append_right _ (List.mem_append_right _ (List.mem_append_right _ (List.mem_append_right _ (List.mem_append_right _ (List.mem_append_right _ (List.mem_append_right _ (List.mem_append_right _ (List.mem_of_getElem? (i := 15) rfl)))))))))
theorem gd_M_choke : Cond.code mn_M_choke prog_6_method_37_code (6) (Option.some FieldType.int) ∈ GW := List.mem_append_right _ (List.mem_append_right _ (List.mem_append_right _ (List.mem_append_right _ (List.mem_append_right _ (List.mem_append_right _ (List.mem_append_right _ (List.mem_append_right _ (List.mem_append_right _ (List.mem_of_getElem? (i := 16) rfl)))))))))
theorem gm_M_161 : Cond.methodLink "CatchSharesModel" (161) mn_M_isLess ∈ GW := List.mem_append_right _ (List.mem_append_right _ (List.mem_append_right _ (List.mem_append_right _ (List.mem_append_right _ (List.mem_append_right _ (List.mem_append_right _ (List.mem_append_right _ (List.mem_append_right _ (List.mem_of_getElem? (i := 17) rfl)))))))))
theorem gt_M_isLess : Cond.static mn_M_isLess ∈ GW := List.mem_append_right _ (List.mem_append_right _ (List.mem_append_right _ (List.mem_append_right _ (List.mem_append_right _ (List.mem_append_right _ (List.mem_append_right _ (List.mem_append_right _ (List.mem_append_right _ (List.mem_of_getElem? (i := 18) rfl)))))))))
theorem gd_M_isLess : Cond.code mn_M_isLess prog_6_method_35_code (25) (Option.some FieldType.boolean) ∈ GW := List.mem_append_right _ (List.mem_append_right _ (List.mem_append_right _ (List.mem_append_right _ (List.mem_append_right _ (List.mem_append_right _ (List.mem_append_right _ (List.mem_append_right _ (List.mem_append_right _ (List.mem_of_getElem? (i := 19) rfl)))))))))
theorem gm_M_157 : Cond.methodLink "CatchSharesModel" (157) mn_M_down ∈ GW := List.mem_append_right _ (List.mem_append_right _ (List.mem_append_right _ (List.mem_append_right _ (List.mem_append_right _ (List.mem_append_right _ (List.mem_append_right _ (List.mem_append_right _ (List.mem_append_right _ (List.mem_of_getElem? (i := 20) rfl)))))))))
theorem gt_M_down : Cond.static mn_M_down ∈ GW := List.mem_append_right _ (List.mem_append_right _ (List.mem_append_right _ (List.mem_append_right _ (List.mem_append_right _ (List.mem_append_right _ (List.mem_append_right _ (List.mem_append_right _ (List.mem_append_right _ (List.mem_of_getElem? (i := 21) rfl)))))))))
theorem gd_M_down : Cond.code mn_M_down prog_6_method_36_code (6) (Option.some FieldType.long) ∈ GW := List.mem_append_right _ (List.mem_append_right _ (List.mem_append_right _ (List.mem_append_right _ (List.mem_append_right _ (List.mem_append_right _ (List.mem_append_right _ (List.mem_append_right _ (List.mem_append_right _ (List.mem_of_getElem? (i := 22) rfl)))))))))
theorem gm_W_115 : Cond.methodLink "CatchSharesLaw" (115) mn_M_closes ∈ GW := List.mem_append_right _ (List.mem_append_right _ (List.mem_append_right _ (List.mem_append_right _ (List.mem_append_right _ (List.mem_append_right _ (List.mem_append_right _ (List.mem_append_right _ (List.mem_append_right _ (List.mem_of_getElem? (i := 23) rfl)))))))))
theorem gj_M_closes : Cond.instanceMethod mn_M_closes ∈ GW := List.mem_append_right _ (List.mem_append_right _ (List.mem_append_right _ (List.mem_append_right _ (List.mem_append_right _ (List.mem_append_right _ (List.mem_append_right _ (List.mem_append_right _ (List.mem_append_right _ (List.mem_of_getElem? (i := 24) rfl)))))))))
theorem gs_M_closes : Cond.selects "CatchSharesModel" mn_M_closes mn_M_closes ∈ GW := List.mem_append_right _ (List.mem_append_right _ (List.mem_append_right _ (List.mem_append_right _ (List.mem_append_right _ (List.mem_append_right _ (List.mem_append_right _ (List.mem_append_right _ (List.mem_append_right _ (List.mem_of_getElem? (i := 25) rfl)))))))))
theorem gd_M_closes : Cond.code mn_M_closes prog_6_method_38_code (9) (Option.some FieldType.long) ∈ GW := List.mem_append_right _ (List.mem_append_right _ (List.mem_append_right _ (List.mem_append_right _ (List.mem_append_right _ (List.mem_append_right _ (List.mem_append_right _ (List.mem_append_right _ (List.mem_append_right _ (List.mem_of_getElem? (i := 26) rfl)))))))))
theorem gm_W_120 : Cond.methodLink "CatchSharesLaw" (120) mn_M_seen ∈ GW := List.mem_append_right _ (List.mem_append_right _ (List.mem_append_right _ (List.mem_append_right _ (List.mem_append_right _ (List.mem_append_right _ (List.mem_append_right _ (List.mem_append_right _ (List.mem_append_right _ (List.mem_of_getElem? (i := 27) rfl)))))))))
theorem gj_M_seen : Cond.instanceMethod mn_M_seen ∈ GW := List.mem_append_right _ (List.mem_append_right _ (List.mem_append_right _ (List.mem_append_right _ (List.mem_append_right _ (List.mem_append_right _ (List.mem_append_right _ (List.mem_append_right _ (List.mem_append_right _ (List.mem_of_getElem? (i := 28) rfl)))))))))
theorem gs_M_seen : Cond.selects "CatchSharesModel" mn_M_seen mn_M_seen ∈ GW := List.mem_append_right _ (List.mem_append_right _ (List.mem_append_right _ (List.mem_append_right _ (List.mem_append_right _ (List.mem_append_right _ (List.mem_append_right _ (List.mem_append_right _ (List.mem_append_right _ (List.mem_of_getElem? (i := 29) rfl)))))))))
theorem gd_M_seen : Cond.code mn_M_seen prog_6_method_39_code (6) (Option.some FieldType.boolean) ∈ GW := List.mem_append_right _ (List.mem_append_right _ (List.mem_append_right _ (List.mem_append_right _ (List.mem_append_right _ (List.mem_append_right _ (List.mem_append_right _ (List.mem_append_right _ (List.mem_append_right _ (List.mem_of_getElem? (i := 30) rfl)))))))))
theorem gm_W_125 : Cond.methodLink "CatchSharesLaw" (125) mn_M_discard ∈ GW := List.mem_append_right _ (List.mem_append_right _ (List.mem_append_right _ (List.mem_append_right _ (List.mem_append_right _ (List.mem_append_right _ (List.mem_append_right _ (List.mem_append_right _ (List.mem_append_right _ (List.mem_of_getElem? (i := 31) rfl)))))))))
theorem gj_M_discard : Cond.instanceMethod mn_M_discard ∈ GW := List.mem_append_right _ (List.mem_append_right _ (List.mem_append_right _ (List.mem_append_right _ (List.mem_append_right _ (List.mem_append_right _ (List.mem_append_right _ (List.mem_append_right _ (List.mem_append_right _ (List.mem_of_getElem? (i := 32) rfl)))))))))
theorem gs_M_discard : Cond.selects "CatchSharesModel" mn_M_discard mn_M_discard ∈ GW := List.mem_append_right _ (List.mem_append_right _ (List.mem_append_right _ (List.mem_append_right _ (List.mem_append_right _ (List.mem_append_right _ (List.mem_append_right _ (List.mem_append_right _ (List.mem_append_right _ (List.mem_of_getElem? (i := 33) rfl)))))))))
theorem gd_M_discard : Cond.code mn_M_discard prog_6_method_41_code (2) (Option.some FieldType.long) ∈ GW := List.mem_append_right _ (List.mem_append_right _ (List.mem_append_right _ (List.mem_append_right _ (List.mem_append_right _ (List.mem_append_right _ (List.mem_append_right _ (List.mem_append_right _ (List.mem_append_right _ (List.mem_of_getElem? (i := 34) rfl)))))))))
theorem gm_M_165 : Cond.methodLink "CatchSharesModel" (165) mn_M_allLandings ∈ GW := List.mem_append_right _ (List.mem_append_right _ (List.mem_append_right _ (List.mem_append_right _ (List.mem_append_right _ (List.mem_append_right _ (List.mem_append_right _ (List.mem_append_right _ (List.mem_append_right _ (List.mem_of_getElem? (i := 35) rfl)))))))))
theorem gj_M_allLandings : Cond.instanceMethod mn_M_allLandings ∈ GW := List.mem_append_right _ (List.mem_append_right _ (List.mem_append_right _ (List.mem_append_right _ (List.mem_append_right _ (List.mem_append_right _ (List.mem_append_right _ (List.mem_append_right _ (List.mem_append_right _ (List.mem_of_getElem? (i := 36) rfl)))))))))
theorem gd_M_allLandings : Cond.code mn_M_allLandings prog_6_method_40_code (5) (Option.some FieldType.long) ∈ GW := List.mem_append_right _ (List.mem_append_right _ (List.mem_append_right _ (List.mem_append_right _ (List.mem_append_right _ (List.mem_append_right _ (List.mem_append_right _ (List.mem_append_right _ (List.mem_append_right _ (List.mem_of_getElem? (i := 37) rfl)))))))))
theorem gm_W_129 : Cond.methodLink "CatchSharesLaw" (129) mn_M_told ∈ GW := List.mem_append_right _ (List.mem_append_right _ (List.mem_append_right _ (List.mem_append_right _ (List.mem_append_right _ (List.mem_append_right _ (List.mem_append_right _ (List.mem_append_right _ (List.mem_append_right _ (List.mem_of_getElem? (i := 38) rfl)))))))))
theorem gj_M_told : Cond.instanceMethod mn_M_told ∈ GW := List.mem_append_right _ (List.mem_append_right _ (List.mem_append_right _ (List.mem_append_right _ (List.mem_append_right _ (List.mem_append_right _ (List.mem_append_right _ (List.mem_append_right _ (List.mem_append_right _ (List.mem_of_getElem? (i := 39) rfl)))))))))
theorem gs_M_told : Cond.selects "CatchSharesModel" mn_M_told mn_M_told ∈ GW := List.mem_append_right _ (List.mem_append_right _ (List.mem_append_right _ (List.mem_append_right _ (List.mem_append_right _ (List.mem_append_right _ (List.mem_append_right _ (List.mem_append_right _ (List.mem_append_right _ (List.mem_of_getElem? (i := 40) rfl)))))))))
theorem gd_M_told : Cond.code mn_M_told prog_6_method_42_code (3) (Option.some FieldType.long) ∈ GW := List.mem_append_right _ (List.mem_append_right _ (List.mem_append_right _ (List.mem_append_right _ (List.mem_append_right _ (List.mem_append_right _ (List.mem_append_right _ (List.mem_append_right _ (List.mem_append_right _ (List.mem_of_getElem? (i := 41) rfl)))))))))
theorem gm_W_133 : Cond.methodLink "CatchSharesLaw" (133) mn_M_sums ∈ GW := List.mem_append_right _ (List.mem_append_right _ (List.mem_append_right _ (List.mem_append_right _ (List.mem_append_right _ (List.mem_append_right _ (List.mem_append_right _ (List.mem_append_right _ (List.mem_append_right _ (List.mem_of_getElem? (i := 42) rfl)))))))))
theorem gj_M_sums : Cond.instanceMethod mn_M_sums ∈ GW := List.mem_append_right _ (List.mem_append_right _ (List.mem_append_right _ (List.mem_append_right _ (List.mem_append_right _ (List.mem_append_right _ (List.mem_append_right _ (List.mem_append_right _ (List.mem_append_right _ (List.mem_of_getElem? (i := 43) rfl)))))))))
theorem gs_M_sums : Cond.selects "CatchSharesModel" mn_M_sums mn_M_sums ∈ GW := List.mem_append_right _ (List.mem_append_right _ (List.mem_append_right _ (List.mem_append_right _ (List.mem_append_right _ (List.mem_append_right _ (List.mem_append_right _ (List.mem_append_right _ (List.mem_append_right _ (List.mem_of_getElem? (i := 44) rfl)))))))))
theorem gd_M_sums : Cond.code mn_M_sums prog_6_method_43_code (2) (Option.some FieldType.boolean) ∈ GW := List.mem_append_right _ (List.mem_append_right _ (List.mem_append_right _ (List.mem_append_right _ (List.mem_append_right _ (List.mem_append_right _ (List.mem_append_right _ (List.mem_append_right _ (List.mem_append_right _ (List.mem_of_getElem? (i := 45) rfl)))))))))
theorem gk_W_13 : Cond.constantLong "CatchSharesLaw" (13) (4294967295) ∈ GW := List.mem_append_right _ (List.mem_append_right _ (List.mem_append_right _ (List.mem_append_right _ (List.mem_append_right _ (List.mem_append_right _ (List.mem_append_right _ (List.mem_append_right _ (List.mem_append_right _ (List.mem_of_getElem? (i := 46) rfl)))))))))
theorem uw_L : ∀ x ∈ u_ws na_L fT_L 5, x ∈ GW := by decide +kernel
theorem uw_O : ∀ x ∈ u_ws na_O fT_O 4, x ∈ GW := by decide +kernel
theorem uw_S : ∀ x ∈ u_ws na_S fT_S 11, x ∈ GW := by decide +kernel
theorem uw_C : ∀ x ∈ u_ws na_C fT_C 9, x ∈ GW := by decide +kernel
theorem uw_M : ∀ x ∈ u_ws na_M fT_M 25, x ∈ GW := by decide +kernel
theorem kc_L_init : cx_KI GW mn_L_init bc_L_init 1 0 := ⟨rfl, gj_L_init, gi_L, gd_L_init, ⟨by decide +kernel, by decide +kernel, by decide +kernel⟩⟩
theorem kc_L_add : cx_KV GW mn_L_add bc_L_add 6 (some .boolean) 4 := ⟨gj_L_add, gs_L_add, gi_L, gd_L_add, ⟨by decide +kernel, by decide +kernel, by decide +kernel⟩⟩
theorem kc_L_toldUpTo : cx_KV GW mn_L_toldUpTo bc_L_toldUpTo 7 (some .long) 3 := ⟨gj_L_toldUpTo, gs_L_toldUpTo, gi_L, gd_L_toldUpTo, ⟨by decide +kernel, by decide +kernel, by decide +kernel⟩⟩
theorem kc_L_ofStock : cx_KV GW mn_L_ofStock bc_L_ofStock 5 (some .long) 1 := ⟨gj_L_ofStock, gs_L_ofStock, gi_L, gd_L_ofStock, ⟨by decide +kernel, by decide +kernel, by decide +kernel⟩⟩
theorem kc_O_init : cx_KI GW mn_O_init bc_O_init 1 0 := ⟨rfl, gj_O_init, gi_O, gd_O_init, ⟨by decide +kernel, by decide +kernel, by decide +kernel⟩⟩
theorem kc_O_setPart : cx_KV GW mn_O_setPart bc_O_setPart 6 (some .boolean) 3 := ⟨gj_O_setPart, gs_O_setPart, gi_O, gd_O_setPart, ⟨by decide +kernel, by decide +kernel, by decide +kernel⟩⟩
theorem kc_O_findHolds : cx_KV GW mn_O_findHolds bc_O_findHolds 4 none 1 := ⟨gj_O_findHolds, gs_O_findHolds, gi_O, gd_O_findHolds, ⟨by decide +kernel, by decide +kernel, by decide +kernel⟩⟩
theorem kc_O_found : cx_KV GW mn_O_found bc_O_found 2 (some .long) 1 := ⟨gj_O_found, gs_O_found, gi_O, gd_O_found, ⟨by decide +kernel, by decide +kernel, by decide +kernel⟩⟩
theorem kc_O_lengthenWays : cx_KV GW mn_O_lengthenWays bc_O_lengthenWays 5 none 0 := ⟨gj_O_lengthenWays, gs_O_lengthenWays, gi_O, gd_O_lengthenWays, ⟨by decide +kernel, by decide +kernel, by decide +kernel⟩⟩
theorem kc_S_init : cx_KI GW mn_S_init bc_S_init 4 2 := ⟨rfl, gj_S_init, gi_S, gd_S_init, ⟨by decide +kernel, by decide +kernel, by decide +kernel⟩⟩
theorem kc_S_allWeights : cx_KV GW mn_S_allWeights bc_S_allWeights 1 (some .long) 0 := ⟨gj_S_allWeights, gs_S_allWeights, gi_S, gd_S_allWeights, ⟨by decide +kernel, by decide +kernel, by decide +kernel⟩⟩
theorem kc_S_allShares : cx_KV GW mn_S_allShares bc_S_allShares 1 (some .long) 0 := ⟨gj_S_allShares, gs_S_allShares, gi_S, gd_S_allShares, ⟨by decide +kernel, by decide +kernel, by decide +kernel⟩⟩
theorem kc_S_sumOf : cx_KS GW mn_S_sumOf bc_S_sumOf 4 (some .long) 1 := ⟨gt_S_sumOf, gi_S, gd_S_sumOf, ⟨by decide +kernel, by decide +kernel, by decide +kernel⟩⟩
theorem kc_S_countShares : cx_KV GW mn_S_countShares bc_S_countShares 3 (some .int) 0 := ⟨gj_S_countShares, gs_S_countShares, gi_S, gd_S_countShares, ⟨by decide +kernel, by decide +kernel, by decide +kernel⟩⟩
theorem kc_S_shareOut : cx_KV GW mn_S_shareOut bc_S_shareOut 8 (some .boolean) 0 := ⟨gj_S_shareOut, gs_S_shareOut, gi_S, gd_S_shareOut, ⟨by decide +kernel, by decide +kernel, by decide +kernel⟩⟩
theorem kc_S_rankByRest : cx_KV GW mn_S_rankByRest bc_S_rankByRest 12 (some .int) 3 := ⟨gj_S_rankByRest, gs_S_rankByRest, gi_S, gd_S_rankByRest, ⟨by decide +kernel, by decide +kernel, by decide +kernel⟩⟩
theorem kc_S_restOf : cx_KV GW mn_S_restOf bc_S_restOf 6 (some .long) 3 := ⟨gj_S_restOf, gs_S_restOf, gi_S, gd_S_restOf, ⟨by decide +kernel, by decide +kernel, by decide +kernel⟩⟩
theorem kc_S_carryIn : cx_KV GW mn_S_carryIn bc_S_carryIn 6 none 2 := ⟨gj_S_carryIn, gs_S_carryIn, gi_S, gd_S_carryIn, ⟨by decide +kernel, by decide +kernel, by decide +kernel⟩⟩
theorem kc_S_swapShare : cx_KV GW mn_S_swapShare bc_S_swapShare 4 none 2 := ⟨gj_S_swapShare, gs_S_swapShare, gi_S, gd_S_swapShare, ⟨by decide +kernel, by decide +kernel, by decide +kernel⟩⟩
theorem kc_C_init : cx_KI GW mn_C_init bc_C_init 1 0 := ⟨rfl, gj_C_init, gi_C, gd_C_init, ⟨by decide +kernel, by decide +kernel, by decide +kernel⟩⟩
theorem kc_C_stock : cx_KV GW mn_C_stock bc_C_stock 4 (some .int) 1 := ⟨gj_C_stock, gs_C_stock, gi_C, gd_C_stock, ⟨by decide +kernel, by decide +kernel, by decide +kernel⟩⟩
theorem kc_C_holder : cx_KV GW mn_C_holder bc_C_holder 3 (some .int) 1 := ⟨gj_C_holder, gs_C_holder, gi_C, gd_C_holder, ⟨by decide +kernel, by decide +kernel, by decide +kernel⟩⟩
theorem kc_C_weight : cx_KV GW mn_C_weight bc_C_weight 6 (some .boolean) 3 := ⟨gj_C_weight, gs_C_weight, gi_C, gd_C_weight, ⟨by decide +kernel, by decide +kernel, by decide +kernel⟩⟩
theorem kc_C_aside : cx_KV GW mn_C_aside bc_C_aside 5 (some .boolean) 2 := ⟨gj_C_aside, gs_C_aside, gi_C, gd_C_aside, ⟨by decide +kernel, by decide +kernel, by decide +kernel⟩⟩
theorem kc_C_follows : cx_KV GW mn_C_follows bc_C_follows 5 (some .boolean) 2 := ⟨gj_C_follows, gs_C_follows, gi_C, gd_C_follows, ⟨by decide +kernel, by decide +kernel, by decide +kernel⟩⟩
theorem kc_C_part : cx_KV GW mn_C_part bc_C_part 4 (some .int) 1 := ⟨gj_C_part, gs_C_part, gi_C, gd_C_part, ⟨by decide +kernel, by decide +kernel, by decide +kernel⟩⟩
theorem kc_C_given : cx_KV GW mn_C_given bc_C_given 4 (some .long) 2 := ⟨gj_C_given, gs_C_given, gi_C, gd_C_given, ⟨by decide +kernel, by decide +kernel, by decide +kernel⟩⟩
theorem kc_C_land : cx_KV GW mn_C_land bc_C_land 8 (some .boolean) 5 := ⟨gj_C_land, gs_C_land, gi_C, gd_C_land, ⟨by decide +kernel, by decide +kernel, by decide +kernel⟩⟩
theorem kc_C_left : cx_KV GW mn_C_left bc_C_left 5 (some .long) 3 := ⟨gj_C_left, gs_C_left, gi_C, gd_C_left, ⟨by decide +kernel, by decide +kernel, by decide +kernel⟩⟩
theorem kc_C_transfer : cx_KV GW mn_C_transfer bc_C_transfer 7 (some .int) 4 := ⟨gj_C_transfer, gs_C_transfer, gi_C, gd_C_transfer, ⟨by decide +kernel, by decide +kernel, by decide +kernel⟩⟩
theorem kc_C_swap : cx_KV GW mn_C_swap bc_C_swap 14 (some .int) 6 := ⟨gj_C_swap, gs_C_swap, gi_C, gd_C_swap, ⟨by decide +kernel, by decide +kernel, by decide +kernel⟩⟩
theorem kc_C_over : cx_KV GW mn_C_over bc_C_over 4 (some .long) 2 := ⟨gj_C_over, gs_C_over, gi_C, gd_C_over, ⟨by decide +kernel, by decide +kernel, by decide +kernel⟩⟩
theorem kc_C_carried : cx_KV GW mn_C_carried bc_C_carried 4 (some .long) 2 := ⟨gj_C_carried, gs_C_carried, gi_C, gd_C_carried, ⟨by decide +kernel, by decide +kernel, by decide +kernel⟩⟩
theorem kc_C_penalty : cx_KV GW mn_C_penalty bc_C_penalty 3 (some .boolean) 2 := ⟨gj_C_penalty, gs_C_penalty, gi_C, gd_C_penalty, ⟨by decide +kernel, by decide +kernel, by decide +kernel⟩⟩
theorem kc_C_into : cx_KV GW mn_C_into bc_C_into 3 (some .boolean) 2 := ⟨gj_C_into, gs_C_into, gi_C, gd_C_into, ⟨by decide +kernel, by decide +kernel, by decide +kernel⟩⟩
theorem kc_C_pooled : cx_KV GW mn_C_pooled bc_C_pooled 7 (some .long) 2 := ⟨gj_C_pooled, gs_C_pooled, gi_C, gd_C_pooled, ⟨by decide +kernel, by decide +kernel, by decide +kernel⟩⟩
theorem kc_C_owns : cx_KV GW mn_C_owns bc_C_owns 4 (some .boolean) 3 := ⟨gj_C_owns, gs_C_owns, gi_C, gd_C_owns, ⟨by decide +kernel, by decide +kernel, by decide +kernel⟩⟩
theorem kc_C_hold : cx_KV GW mn_C_hold bc_C_hold 3 (some .long) 2 := ⟨gj_C_hold, gs_C_hold, gi_C, gd_C_hold, ⟨by decide +kernel, by decide +kernel, by decide +kernel⟩⟩
theorem kc_C_cap : cx_KV GW mn_C_cap bc_C_cap 4 (some .boolean) 2 := ⟨gj_C_cap, gs_C_cap, gi_C, gd_C_cap, ⟨by decide +kernel, by decide +kernel, by decide +kernel⟩⟩
theorem kc_C_capped : cx_KV GW mn_C_capped bc_C_capped 4 (some .boolean) 1 := ⟨gj_C_capped, gs_C_capped, gi_C, gd_C_capped, ⟨by decide +kernel, by decide +kernel, by decide +kernel⟩⟩
theorem kc_C_choke : cx_KV GW mn_C_choke bc_C_choke 5 (some .int) 1 := ⟨gj_C_choke, gs_C_choke, gi_C, gd_C_choke, ⟨by decide +kernel, by decide +kernel, by decide +kernel⟩⟩
theorem kc_C_closes : cx_KV GW mn_C_closes bc_C_closes 8 (some .long) 2 := ⟨gj_C_closes, gs_C_closes, gi_C, gd_C_closes, ⟨by decide +kernel, by decide +kernel, by decide +kernel⟩⟩
theorem kc_C_seen : cx_KV GW mn_C_seen bc_C_seen 7 (some .boolean) 3 := ⟨gj_C_seen, gs_C_seen, gi_C, gd_C_seen, ⟨by decide +kernel, by decide +kernel, by decide +kernel⟩⟩
theorem kc_C_discard : cx_KV GW mn_C_discard bc_C_discard 3 (some .long) 1 := ⟨gj_C_discard, gs_C_discard, gi_C, gd_C_discard, ⟨by decide +kernel, by decide +kernel, by decide +kernel⟩⟩
theorem kc_C_told : cx_KV GW mn_C_told bc_C_told 4 (some .long) 2 := ⟨gj_C_told, gs_C_told, gi_C, gd_C_told, ⟨by decide +kernel, by decide +kernel, by decide +kernel⟩⟩
theorem kc_C_sums : cx_KV GW mn_C_sums bc_C_sums 3 (some .boolean) 1 := ⟨gj_C_sums, gs_C_sums, gi_C, gd_C_sums, ⟨by decide +kernel, by decide +kernel, by decide +kernel⟩⟩
theorem kc_C_isWithin : cx_KS GW mn_C_isWithin bc_C_isWithin 6 (some .boolean) 3 := ⟨gt_C_isWithin, gi_C, gd_C_isWithin, ⟨by decide +kernel, by decide +kernel, by decide +kernel⟩⟩
theorem kc_C_isFraction : cx_KS GW mn_C_isFraction bc_C_isFraction 2 (some .boolean) 2 := ⟨gt_C_isFraction, gi_C, gd_C_isFraction, ⟨by decide +kernel, by decide +kernel, by decide +kernel⟩⟩
theorem kc_C_dividedUp : cx_KS GW mn_C_dividedUp bc_C_dividedUp 4 (some .long) 2 := ⟨gt_C_dividedUp, gi_C, gd_C_dividedUp, ⟨by decide +kernel, by decide +kernel, by decide +kernel⟩⟩
theorem kc_C_isOwner : cx_KS GW mn_C_isOwner bc_C_isOwner 1 (some .boolean) 1 := ⟨gt_C_isOwner, gi_C, gd_C_isOwner, ⟨by decide +kernel, by decide +kernel, by decide +kernel⟩⟩
theorem kc_C_isPool : cx_KS GW mn_C_isPool bc_C_isPool 1 (some .boolean) 1 := ⟨gt_C_isPool, gi_C, gd_C_isPool, ⟨by decide +kernel, by decide +kernel, by decide +kernel⟩⟩
theorem kc_C_isHolder : cx_KV GW mn_C_isHolder bc_C_isHolder 2 (some .boolean) 1 := ⟨gj_C_isHolder, gs_C_isHolder, gi_C, gd_C_isHolder, ⟨by decide +kernel, by decide +kernel, by decide +kernel⟩⟩
theorem kc_C_findStock : cx_KV GW mn_C_findStock bc_C_findStock 2 (some (.object "CatchShares$Stock")) 1 := ⟨gj_C_findStock, gs_C_findStock, gi_C, gd_C_findStock, ⟨by decide +kernel, by decide +kernel, by decide +kernel⟩⟩
theorem kc_C_leftOn : cx_KV GW mn_C_leftOn bc_C_leftOn 4 (some .long) 3 := ⟨gj_C_leftOn, gs_C_leftOn, gi_C, gd_C_leftOn, ⟨by decide +kernel, by decide +kernel, by decide +kernel⟩⟩
theorem kc_C_leftInAll : cx_KV GW mn_C_leftInAll bc_C_leftInAll 3 (some .long) 2 := ⟨gj_C_leftInAll, gs_C_leftInAll, gi_C, gd_C_leftInAll, ⟨by decide +kernel, by decide +kernel, by decide +kernel⟩⟩
theorem kc_C_overOf : cx_KV GW mn_C_overOf bc_C_overOf 3 (some .long) 2 := ⟨gj_C_overOf, gs_C_overOf, gi_C, gd_C_overOf, ⟨by decide +kernel, by decide +kernel, by decide +kernel⟩⟩
theorem kc_C_carriedOf : cx_KV GW mn_C_carriedOf bc_C_carriedOf 5 (some .long) 2 := ⟨gj_C_carriedOf, gs_C_carriedOf, gi_C, gd_C_carriedOf, ⟨by decide +kernel, by decide +kernel, by decide +kernel⟩⟩
theorem kc_C_carryOver : cx_KV GW mn_C_carryOver bc_C_carryOver 4 none 2 := ⟨gj_C_carryOver, gs_C_carryOver, gi_C, gd_C_carryOver, ⟨by decide +kernel, by decide +kernel, by decide +kernel⟩⟩
theorem kc_C_holdOf : cx_KV GW mn_C_holdOf bc_C_holdOf 3 (some .long) 2 := ⟨gj_C_holdOf, gs_C_holdOf, gi_C, gd_C_holdOf, ⟨by decide +kernel, by decide +kernel, by decide +kernel⟩⟩
theorem kc_C_isAboveCap : cx_KV GW mn_C_isAboveCap bc_C_isAboveCap 9 (some .boolean) 1 := ⟨gj_C_isAboveCap, gs_C_isAboveCap, gi_C, gd_C_isAboveCap, ⟨by decide +kernel, by decide +kernel, by decide +kernel⟩⟩
theorem kc_C_isScarcer : cx_KV GW mn_C_isScarcer bc_C_isScarcer 16 (some .boolean) 3 := ⟨gj_C_isScarcer, gs_C_isScarcer, gi_C, gd_C_isScarcer, ⟨by decide +kernel, by decide +kernel, by decide +kernel⟩⟩
theorem kc_M_init : cx_KI GW mn_M_init bc_M_init 1 0 := ⟨rfl, gj_M_init, gi_M, gd_M_init, ⟨by decide +kernel, by decide +kernel, by decide +kernel⟩⟩
theorem kc_M_in : cx_KS GW mn_M_in bc_M_in 6 (some .boolean) 3 := ⟨gt_M_in, gi_M, gd_M_in, ⟨by decide +kernel, by decide +kernel, by decide +kernel⟩⟩
theorem kc_M_isStock : cx_KV GW mn_M_isStock bc_M_isStock 2 (some .boolean) 1 := ⟨gj_M_isStock, gs_M_isStock, gi_M, gd_M_isStock, ⟨by decide +kernel, by decide +kernel, by decide +kernel⟩⟩
theorem kc_M_isHolder : cx_KV GW mn_M_isHolder bc_M_isHolder 2 (some .boolean) 1 := ⟨gj_M_isHolder, gs_M_isHolder, gi_M, gd_M_isHolder, ⟨by decide +kernel, by decide +kernel, by decide +kernel⟩⟩
theorem kc_M_isOwner : cx_KS GW mn_M_isOwner bc_M_isOwner 1 (some .boolean) 1 := ⟨gt_M_isOwner, gi_M, gd_M_isOwner, ⟨by decide +kernel, by decide +kernel, by decide +kernel⟩⟩
theorem kc_M_stock : cx_KV GW mn_M_stock bc_M_stock 3 (some .int) 1 := ⟨gj_M_stock, gs_M_stock, gi_M, gd_M_stock, ⟨by decide +kernel, by decide +kernel, by decide +kernel⟩⟩
theorem kc_M_holder : cx_KV GW mn_M_holder bc_M_holder 2 (some .int) 1 := ⟨gj_M_holder, gs_M_holder, gi_M, gd_M_holder, ⟨by decide +kernel, by decide +kernel, by decide +kernel⟩⟩
theorem kc_M_weight : cx_KV GW mn_M_weight bc_M_weight 5 (some .boolean) 3 := ⟨gj_M_weight, gs_M_weight, gi_M, gd_M_weight, ⟨by decide +kernel, by decide +kernel, by decide +kernel⟩⟩
theorem kc_M_aside : cx_KV GW mn_M_aside bc_M_aside 4 (some .boolean) 2 := ⟨gj_M_aside, gs_M_aside, gi_M, gd_M_aside, ⟨by decide +kernel, by decide +kernel, by decide +kernel⟩⟩
theorem kc_M_follows : cx_KV GW mn_M_follows bc_M_follows 3 (some .boolean) 2 := ⟨gj_M_follows, gs_M_follows, gi_M, gd_M_follows, ⟨by decide +kernel, by decide +kernel, by decide +kernel⟩⟩
theorem kc_M_allWeights : cx_KV GW mn_M_allWeights bc_M_allWeights 5 (some .long) 1 := ⟨gj_M_allWeights, gs_M_allWeights, gi_M, gd_M_allWeights, ⟨by decide +kernel, by decide +kernel, by decide +kernel⟩⟩
theorem kc_M_allShares : cx_KV GW mn_M_allShares bc_M_allShares 5 (some .long) 1 := ⟨gj_M_allShares, gs_M_allShares, gi_M, gd_M_allShares, ⟨by decide +kernel, by decide +kernel, by decide +kernel⟩⟩
theorem kc_M_part : cx_KV GW mn_M_part bc_M_part 15 (some .int) 1 := ⟨gj_M_part, gs_M_part, gi_M, gd_M_part, ⟨by decide +kernel, by decide +kernel, by decide +kernel⟩⟩
theorem kc_M_given : cx_KV GW mn_M_given bc_M_given 3 (some .long) 2 := ⟨gj_M_given, gs_M_given, gi_M, gd_M_given, ⟨by decide +kernel, by decide +kernel, by decide +kernel⟩⟩
theorem kc_M_land : cx_KV GW mn_M_land bc_M_land 7 (some .boolean) 5 := ⟨gj_M_land, gs_M_land, gi_M, gd_M_land, ⟨by decide +kernel, by decide +kernel, by decide +kernel⟩⟩
theorem kc_M_leftOn : cx_KV GW mn_M_leftOn bc_M_leftOn 7 (some .long) 3 := ⟨gj_M_leftOn, gs_M_leftOn, gi_M, gd_M_leftOn, ⟨by decide +kernel, by decide +kernel, by decide +kernel⟩⟩
theorem kc_M_leftOf : cx_KV GW mn_M_leftOf bc_M_leftOf 3 (some .long) 2 := ⟨gj_M_leftOf, gs_M_leftOf, gi_M, gd_M_leftOf, ⟨by decide +kernel, by decide +kernel, by decide +kernel⟩⟩
theorem kc_M_left : cx_KV GW mn_M_left bc_M_left 4 (some .long) 3 := ⟨gj_M_left, gs_M_left, gi_M, gd_M_left, ⟨by decide +kernel, by decide +kernel, by decide +kernel⟩⟩
theorem kc_M_overOf : cx_KV GW mn_M_overOf bc_M_overOf 5 (some .long) 2 := ⟨gj_M_overOf, gs_M_overOf, gi_M, gd_M_overOf, ⟨by decide +kernel, by decide +kernel, by decide +kernel⟩⟩
theorem kc_M_carriedOf : cx_KV GW mn_M_carriedOf bc_M_carriedOf 9 (some .long) 2 := ⟨gj_M_carriedOf, gs_M_carriedOf, gi_M, gd_M_carriedOf, ⟨by decide +kernel, by decide +kernel, by decide +kernel⟩⟩
theorem kc_M_over : cx_KV GW mn_M_over bc_M_over 3 (some .long) 2 := ⟨gj_M_over, gs_M_over, gi_M, gd_M_over, ⟨by decide +kernel, by decide +kernel, by decide +kernel⟩⟩
theorem kc_M_carried : cx_KV GW mn_M_carried bc_M_carried 3 (some .long) 2 := ⟨gj_M_carried, gs_M_carried, gi_M, gd_M_carried, ⟨by decide +kernel, by decide +kernel, by decide +kernel⟩⟩
theorem kc_M_penalty : cx_KV GW mn_M_penalty bc_M_penalty 3 (some .boolean) 2 := ⟨gj_M_penalty, gs_M_penalty, gi_M, gd_M_penalty, ⟨by decide +kernel, by decide +kernel, by decide +kernel⟩⟩
theorem kc_M_transfer : cx_KV GW mn_M_transfer bc_M_transfer 6 (some .int) 4 := ⟨gj_M_transfer, gs_M_transfer, gi_M, gd_M_transfer, ⟨by decide +kernel, by decide +kernel, by decide +kernel⟩⟩
theorem kc_M_swap : cx_KV GW mn_M_swap bc_M_swap 10 (some .int) 6 := ⟨gj_M_swap, gs_M_swap, gi_M, gd_M_swap, ⟨by decide +kernel, by decide +kernel, by decide +kernel⟩⟩
theorem kc_M_into : cx_KV GW mn_M_into bc_M_into 3 (some .boolean) 2 := ⟨gj_M_into, gs_M_into, gi_M, gd_M_into, ⟨by decide +kernel, by decide +kernel, by decide +kernel⟩⟩
theorem kc_M_pooled : cx_KV GW mn_M_pooled bc_M_pooled 6 (some .long) 2 := ⟨gj_M_pooled, gs_M_pooled, gi_M, gd_M_pooled, ⟨by decide +kernel, by decide +kernel, by decide +kernel⟩⟩
theorem kc_M_reaches : cx_KV GW mn_M_reaches bc_M_reaches 6 (some .boolean) 2 := ⟨gj_M_reaches, gs_M_reaches, gi_M, gd_M_reaches, ⟨by decide +kernel, by decide +kernel, by decide +kernel⟩⟩
theorem kc_M_owns : cx_KV GW mn_M_owns bc_M_owns 6 (some .boolean) 3 := ⟨gj_M_owns, gs_M_owns, gi_M, gd_M_owns, ⟨by decide +kernel, by decide +kernel, by decide +kernel⟩⟩
theorem kc_M_findHolds : cx_KV GW mn_M_findHolds bc_M_findHolds 7 none 1 := ⟨gj_M_findHolds, gs_M_findHolds, gi_M, gd_M_findHolds, ⟨by decide +kernel, by decide +kernel, by decide +kernel⟩⟩
theorem kc_M_hold : cx_KV GW mn_M_hold bc_M_hold 3 (some .long) 2 := ⟨gj_M_hold, gs_M_hold, gi_M, gd_M_hold, ⟨by decide +kernel, by decide +kernel, by decide +kernel⟩⟩
theorem kc_M_cap : cx_KV GW mn_M_cap bc_M_cap 3 (some .boolean) 2 := ⟨gj_M_cap, gs_M_cap, gi_M, gd_M_cap, ⟨by decide +kernel, by decide +kernel, by decide +kernel⟩⟩
theorem kc_M_isAbove : cx_KV GW mn_M_isAbove bc_M_isAbove 10 (some .boolean) 1 := ⟨gj_M_isAbove, gs_M_isAbove, gi_M, gd_M_isAbove, ⟨by decide +kernel, by decide +kernel, by decide +kernel⟩⟩
theorem kc_M_capped : cx_KV GW mn_M_capped bc_M_capped 4 (some .boolean) 1 := ⟨gj_M_capped, gs_M_capped, gi_M, gd_M_capped, ⟨by decide +kernel, by decide +kernel, by decide +kernel⟩⟩
theorem kc_M_isLess : cx_KS GW mn_M_isLess bc_M_isLess 25 (some .boolean) 4 := ⟨gt_M_isLess, gi_M, gd_M_isLess, ⟨by decide +kernel, by decide +kernel, by decide +kernel⟩⟩
theorem kc_M_down : cx_KS GW mn_M_down bc_M_down 6 (some .long) 2 := ⟨gt_M_down, gi_M, gd_M_down, ⟨by decide +kernel, by decide +kernel, by decide +kernel⟩⟩
theorem kc_M_choke : cx_KV GW mn_M_choke bc_M_choke 6 (some .int) 1 := ⟨gj_M_choke, gs_M_choke, gi_M, gd_M_choke, ⟨by decide +kernel, by decide +kernel, by decide +kernel⟩⟩
theorem kc_M_closes : cx_KV GW mn_M_closes bc_M_closes 9 (some .long) 2 := ⟨gj_M_closes, gs_M_closes, gi_M, gd_M_closes, ⟨by decide +kernel, by decide +kernel, by decide +kernel⟩⟩
theorem kc_M_seen : cx_KV GW mn_M_seen bc_M_seen 6 (some .boolean) 3 := ⟨gj_M_seen, gs_M_seen, gi_M, gd_M_seen, ⟨by decide +kernel, by decide +kernel, by decide +kernel⟩⟩
theorem kc_M_allLandings : cx_KV GW mn_M_allLandings bc_M_allLandings 5 (some .long) 1 := ⟨gj_M_allLandings, gs_M_allLandings, gi_M, gd_M_allLandings, ⟨by decide +kernel, by decide +kernel, by decide +kernel⟩⟩
theorem kc_M_discard : cx_KV GW mn_M_discard bc_M_discard 2 (some .long) 1 := ⟨gj_M_discard, gs_M_discard, gi_M, gd_M_discard, ⟨by decide +kernel, by decide +kernel, by decide +kernel⟩⟩
theorem kc_M_told : cx_KV GW mn_M_told bc_M_told 3 (some .long) 2 := ⟨gj_M_told, gs_M_told, gi_M, gd_M_told, ⟨by decide +kernel, by decide +kernel, by decide +kernel⟩⟩
theorem kc_M_sums : cx_KV GW mn_M_sums bc_M_sums 2 (some .boolean) 1 := ⟨gj_M_sums, gs_M_sums, gi_M, gd_M_sums, ⟨by decide +kernel, by decide +kernel, by decide +kernel⟩⟩
theorem kc_J_floorDiv : cx_KS GW mn_J_floorDiv bc_J_floorDiv 6 (some .long) 2 := ⟨gt_J_floorDiv, gi_Math, gd_J_floorDiv, ⟨by decide +kernel, by decide +kernel, by decide +kernel⟩⟩
theorem kc_J_floorMod : cx_KS GW mn_J_floorMod bc_J_floorMod 6 (some .long) 2 := ⟨gt_J_floorMod, gi_Math, gd_J_floorMod, ⟨by decide +kernel, by decide +kernel, by decide +kernel⟩⟩
end
section
section CXR
variable {p : Program} {l : Launch} {e : Env} {R : Room} {s : State} {m : MethodId} {args : Array Value} {below : List Frame} {meth : Method} {c : Code} {H : Heap} {locs : List Loc} {cells slots : Nat} {Q : State → Prop}
variable {cc : ByteArray} {pc nL : Nat} {ls : Array Slot} {rest : List Value} {own : String}
theorem cx_iadd (X : CallFix p m c cc nL s args GW own) {a b : Int} (hdg : decode cc pc = .ok (.iadd, 1)) (k : W p l e R s m args below meth c H locs cells slots Q (F0 m (pc + 1) ls (.int (jI (a + b)) :: rest))) : W p l e R s m args below meth c H locs cells slots Q (F0 m pc ls (.int (jI b) :: .int (jI a) :: rest)) := lv_iadd X.1 X.2.1 hdg (by rw [jI_add]; exact k)
theorem cx_isub (X : CallFix p m c cc nL s args GW own) {a b : Int} (hdg : decode cc pc = .ok (.isub, 1)) (k : W p l e R s m args below meth c H locs cells slots Q (F0 m (pc + 1) ls (.int (jI (a - b)) :: rest))) : W p l e R s m args below meth c H locs cells slots Q (F0 m pc ls (.int (jI b) :: .int (jI a) :: rest)) := lv_isub X.1 X.2.1 hdg (by rw [jI_sub]; exact k)
theorem cx_imul (X : CallFix p m c cc nL s args GW own) {a b : Int} (hdg : decode cc pc = .ok (.imul, 1)) (k : W p l e R s m args below meth c H locs cells slots Q (F0 m (pc + 1) ls (.int (jI (a * b)) :: rest))) : W p l e R s m args below meth c H locs cells slots Q (F0 m pc ls (.int (jI b) :: .int (jI a) :: rest)) := lv_imul X.1 X.2.1 hdg (by rw [jI_mul]; exact k)
theorem cx_ladd (X : CallFix p m c cc nL s args GW own) {a b : Int} (hdg : decode cc pc = .ok (.ladd, 1)) (k : W p l e R s m args below meth c H locs cells slots Q (F0 m (pc + 1) ls (.long (jL (a + b)) :: rest))) : W p l e R s m args below meth c H locs cells slots Q (F0 m pc ls (.long (jL b) :: .long (jL a) :: rest)) := lv_ladd X.1 X.2.1 hdg (by rw [jL_add]; exact k)
theorem cx_lsub (X : CallFix p m c cc nL s args GW own) {a b : Int} (hdg : decode cc pc = .ok (.lsub, 1)) (k : W p l e R s m args below meth c H locs cells slots Q (F0 m (pc + 1) ls (.long (jL (a - b)) :: rest))) : W p l e R s m args below meth c H locs cells slots Q (F0 m pc ls (.long (jL b) :: .long (jL a) :: rest)) := lv_lsub X.1 X.2.1 hdg (by rw [jL_sub]; exact k)
theorem cx_lmul (X : CallFix p m c cc nL s args GW own) {a b : Int} (hdg : decode cc pc = .ok (.lmul, 1)) (k : W p l e R s m args below meth c H locs cells slots Q (F0 m (pc + 1) ls (.long (jL (a * b)) :: rest))) : W p l e R s m args below meth c H locs cells slots Q (F0 m pc ls (.long (jL b) :: .long (jL a) :: rest)) := lv_lmul X.1 X.2.1 hdg (by rw [jL_mul]; exact k)
theorem cx_ineg (X : CallFix p m c cc nL s args GW own) {a : Int} (hdg : decode cc pc = .ok (.ineg, 1)) (k : W p l e R s m args below meth c H locs cells slots Q (F0 m (pc + 1) ls (.int (jI (-a)) :: rest))) : W p l e R s m args below meth c H locs cells slots Q (F0 m pc ls (.int (jI a) :: rest)) := lv_ineg X.1 X.2.1 hdg (by rw [jI_neg]; exact k)
theorem cx_lneg (X : CallFix p m c cc nL s args GW own) {a : Int} (hdg : decode cc pc = .ok (.lneg, 1)) (k : W p l e R s m args below meth c H locs cells slots Q (F0 m (pc + 1) ls (.long (jL (-a)) :: rest))) : W p l e R s m args below meth c H locs cells slots Q (F0 m pc ls (.long (jL a) :: rest)) := lv_lneg X.1 X.2.1 hdg (by rw [jL_neg]; exact k)
theorem cx_ldiv (X : CallFix p m c cc nL s args GW own) {a b : Int} (h1 : 0 ≤ a) (h2 : a ≤ 9223372036854775807) (h3 : 0 < b) (h4 : b ≤ 9223372036854775807) (hdg : decode cc pc = .ok (.ldiv, 1)) (k : W p l e R s m args below meth c H locs cells slots Q (F0 m (pc + 1) ls (.long (jL (a / b)) :: rest))) : W p l e R s m args below meth c H locs cells slots Q (F0 m pc ls (.long (jL b) :: .long (jL a) :: rest)) := lv_ldiv X.1 X.2.1 hdg (jL_ne0 (by omega) (by omega) h4) (by rw [jL_div h1 h2 h3 h4]; exact k)
theorem cx_lrem (X : CallFix p m c cc nL s args GW own) {a b : Int} (h1 : 0 ≤ a) (h2 : a ≤ 9223372036854775807) (h3 : 0 < b) (h4 : b ≤ 9223372036854775807) (hdg : decode cc pc = .ok (.lrem, 1)) (k : W p l e R s m args below meth c H locs cells slots Q (F0 m (pc + 1) ls (.long (jL (a % b)) :: rest))) : W p l e R s m args below meth c H locs cells slots Q (F0 m pc ls (.long (jL b) :: .long (jL a) :: rest)) := lv_lrem X.1 X.2.1 hdg (jL_ne0 (by omega) (by omega) h4) (by rw [jL_rem h1 h2 h3 h4]; exact k)
theorem cx_i2l (X : CallFix p m c cc nL s args GW own) {a : Int} (h1 : -2147483648 ≤ a) (h2 : a ≤ 2147483647) (hdg : decode cc pc = .ok (.i2l, 1)) (k : W p l e R s m args below meth c H locs cells slots Q (F0 m (pc + 1) ls (.long (jL a) :: rest))) : W p l e R s m args below meth c H locs cells slots Q (F0 m pc ls (.int (jI a) :: rest)) := lv_i2l X.1 X.2.1 hdg (jI_l h1 h2) k
theorem cx_iconst (X : CallFix p m c cc nL s args GW own) {n : Int} (hdg : decode cc pc = .ok (.iconst n, 1)) (k : W p l e R s m args below meth c H locs cells slots Q (F0 m (pc + 1) ls (.int (jI n) :: rest))) : W p l e R s m args below meth c H locs cells slots Q (F0 m pc ls rest) := lv_iconst X.1 X.2.1 hdg rfl k
theorem cx_bipush (X : CallFix p m c cc nL s args GW own) {n : Int} (hdg : decode cc pc = .ok (.bipush n, 2)) (hv : (Int8.ofInt n).toInt32 = jI n) (k : W p l e R s m args below meth c H locs cells slots Q (F0 m (pc + 2) ls (.int (jI n) :: rest))) : W p l e R s m args below meth c H locs cells slots Q (F0 m pc ls rest) := lv_bipush X.1 X.2.1 hdg hv k
theorem cx_sipush (X : CallFix p m c cc nL s args GW own) {n : Int} (hdg : decode cc pc = .ok (.sipush n, 3)) (hv : (Int16.ofInt n).toInt32 = jI n) (k : W p l e R s m args below meth c H locs cells slots Q (F0 m (pc + 3) ls (.int (jI n) :: rest))) : W p l e R s m args below meth c H locs cells slots Q (F0 m pc ls rest) := lv_sipush X.1 X.2.1 hdg hv k
theorem cx_lconst (X : CallFix p m c cc nL s args GW own) {n : Fin 2} {a : Int} (hdg : decode cc pc = .ok (.lconst n, 1)) (hv : Int64.ofNat (n : Nat) = jL a) (k : W p l e R s m args below meth c H locs cells slots Q (F0 m (pc + 1) ls (.long (jL a) :: rest))) : W p l e R s m args below meth c H locs cells slots Q (F0 m pc ls rest) := lv_lconst X.1 X.2.1 hdg hv k
theorem cx_ldc (X : CallFix p m c cc nL s args GW own) {index : Nat} {v : Int32} {a : Int} (hw : Cond.constant own index v ∈ GW) (hv : v = jI a) (hdg : decode cc pc = .ok (.ldc index, 2)) (k : W p l e R s m args below meth c H locs cells slots Q (F0 m (pc + 2) ls (.int (jI a) :: rest))) : W p l e R s m args below meth c H locs cells slots Q (F0 m pc ls rest) := lv_ldc X.1 X.2.1 X.2.2.2.1 (X.2.2.2.2 _ hw) hdg (by rw [hv]; exact k)
theorem cx_ldc2 (X : CallFix p m c cc nL s args GW own) {index : Nat} {v : Int64} {a : Int} (hw : Cond.constantLong own index v ∈ GW) (hv : v = jL a) (hdg : decode cc pc = .ok (.ldc2_w index, 3)) (k : W p l e R s m args below meth c H locs cells slots Q (F0 m (pc + 3) ls (.long (jL a) :: rest))) : W p l e R s m args below meth c H locs cells slots Q (F0 m pc ls rest) := lv_ldc2 X.1 X.2.1 X.2.2.2.1 (X.2.2.2.2 _ hw) hdg (by rw [hv]; exact k)
theorem cx_icmp_eq (X : CallFix p m c cc nL s args GW own) {a b : Int} {off : Int} {tgt : Nat} (h1 : -2147483648 ≤ a) (h2 : a ≤ 2147483647) (h3 : -2147483648 ≤ b) (h4 : b ≤ 2147483647) (hdg : decode cc pc = .ok (.if_icmp .eq off, 3)) (ht : (pc : Int) + off = (tgt : Int)) (kt : a = b → W p l e R s m args below meth c H locs cells slots Q (F0 m tgt ls rest)) (kf : ¬ (a = b) → W p l e R s m args below meth c H locs cells slots Q (F0 m (pc + 3) ls rest)) : W p l e R s m args below meth c H locs cells slots Q (F0 m pc ls (.int (jI b) :: .int (jI a) :: rest)) := lv_icmp_eq X.1 X.2.1 hdg ht (fun h => kt ((jI_eq h1 h2 h3 h4).mp h)) (fun h => kf (fun q => h ((jI_eq h1 h2 h3 h4).mpr q)))
theorem cx_if_eq (X : CallFix p m c cc nL s args GW own) {a : Int} {off : Int} {tgt : Nat} (h1 : -2147483648 ≤ a) (h2 : a ≤ 2147483647) (hdg : decode cc pc = .ok (.ifCond .eq off, 3)) (ht : (pc : Int) + off = (tgt : Int)) (kt : a = 0 → W p l e R s m args below meth c H locs cells slots Q (F0 m tgt ls rest)) (kf : ¬ (a = 0) → W p l e R s m args below meth c H locs cells slots Q (F0 m (pc + 3) ls rest)) : W p l e R s m args below meth c H locs cells slots Q (F0 m pc ls (.int (jI a) :: rest)) := lv_if_eq X.1 X.2.1 hdg ht (fun h => kt ((jI_eq h1 h2 (by omega) (by omega)).mp (by rw [jI_0]; exact h))) (fun h => kf (fun q => h (by have h9 := (jI_eq h1 h2 (by omega) (by omega)).mpr q; rw [jI_0] at h9; exact h9)))
theorem cx_icmp_ne (X : CallFix p m c cc nL s args GW own) {a b : Int} {off : Int} {tgt : Nat} (h1 : -2147483648 ≤ a) (h2 : a ≤ 2147483647) (h3 : -2147483648 ≤ b) (h4 : b ≤ 2147483647) (hdg : decode cc pc = .ok (.if_icmp .ne off, 3)) (ht : (pc : Int) + off = (tgt : Int)) (kt : ¬ a = b → W p l e R s m args below meth c H locs cells slots Q (F0 m tgt ls rest)) (kf : a = b → W p l e R s m args below meth c H locs cells slots Q (F0 m (pc + 3) ls rest)) : W p l e R s m args below meth c H locs cells slots Q (F0 m pc ls (.int (jI b) :: .int (jI a) :: rest)) := lv_icmp_ne X.1 X.2.1 hdg ht (fun h => kt ((not_congr (jI_eq h1 h2 h3 h4)).mp h)) (fun h => kf ((jI_eq h1 h2 h3 h4).mp h))
theorem cx_if_ne (X : CallFix p m c cc nL s args GW own) {a : Int} {off : Int} {tgt : Nat} (h1 : -2147483648 ≤ a) (h2 : a ≤ 2147483647) (hdg : decode cc pc = .ok (.ifCond .ne off, 3)) (ht : (pc : Int) + off = (tgt : Int)) (kt : ¬ a = 0 → W p l e R s m args below meth c H locs cells slots Q (F0 m tgt ls rest)) (kf : a = 0 → W p l e R s m args below meth c H locs cells slots Q (F0 m (pc + 3) ls rest)) : W p l e R s m args below meth c H locs cells slots Q (F0 m pc ls (.int (jI a) :: rest)) := lv_if_ne X.1 X.2.1 hdg ht (fun h => kt ((not_congr (jI_eq h1 h2 (by omega) (by omega))).mp (by rw [jI_0]; exact h))) (fun h => kf ((jI_eq h1 h2 (by omega) (by omega)).mp (by rw [jI_0]; exact h)))
theorem cx_icmp_lt (X : CallFix p m c cc nL s args GW own) {a b : Int} {off : Int} {tgt : Nat} (h1 : -2147483648 ≤ a) (h2 : a ≤ 2147483647) (h3 : -2147483648 ≤ b) (h4 : b ≤ 2147483647) (hdg : decode cc pc = .ok (.if_icmp .lt off, 3)) (ht : (pc : Int) + off = (tgt : Int)) (kt : a < b → W p l e R s m args below meth c H locs cells slots Q (F0 m tgt ls rest)) (kf : ¬ (a < b) → W p l e R s m args below meth c H locs cells slots Q (F0 m (pc + 3) ls rest)) : W p l e R s m args below meth c H locs cells slots Q (F0 m pc ls (.int (jI b) :: .int (jI a) :: rest)) := lv_icmp_lt X.1 X.2.1 hdg ht (fun h => kt ((jI_lt h1 h2 h3 h4).mp h)) (fun h => kf (fun q => h ((jI_lt h1 h2 h3 h4).mpr q)))
theorem cx_if_lt (X : CallFix p m c cc nL s args GW own) {a : Int} {off : Int} {tgt : Nat} (h1 : -2147483648 ≤ a) (h2 : a ≤ 2147483647) (hdg : decode cc pc = .ok (.ifCond .lt off, 3)) (ht : (pc : Int) + off = (tgt : Int)) (kt : a < 0 → W p l e R s m args below meth c H locs cells slots Q (F0 m tgt ls rest)) (kf : ¬ (a < 0) → W p l e R s m args below meth c H locs cells slots Q (F0 m (pc + 3) ls rest)) : W p l e R s m args below meth c H locs cells slots Q (F0 m pc ls (.int (jI a) :: rest)) := lv_if_lt X.1 X.2.1 hdg ht (fun h => kt ((jI_lt h1 h2 (by omega) (by omega)).mp (by rw [jI_0]; exact h))) (fun h => kf (fun q => h (by have h9 := (jI_lt h1 h2 (by omega) (by omega)).mpr q; rw [jI_0] at h9; exact h9)))
theorem cx_icmp_ge (X : CallFix p m c cc nL s args GW own) {a b : Int} {off : Int} {tgt : Nat} (h1 : -2147483648 ≤ a) (h2 : a ≤ 2147483647) (h3 : -2147483648 ≤ b) (h4 : b ≤ 2147483647) (hdg : decode cc pc = .ok (.if_icmp .ge off, 3)) (ht : (pc : Int) + off = (tgt : Int)) (kt : b ≤ a → W p l e R s m args below meth c H locs cells slots Q (F0 m tgt ls rest)) (kf : ¬ (b ≤ a) → W p l e R s m args below meth c H locs cells slots Q (F0 m (pc + 3) ls rest)) : W p l e R s m args below meth c H locs cells slots Q (F0 m pc ls (.int (jI b) :: .int (jI a) :: rest)) := lv_icmp_ge X.1 X.2.1 hdg ht (fun h => kt ((jI_le h3 h4 h1 h2).mp h)) (fun h => kf (fun q => h ((jI_le h3 h4 h1 h2).mpr q)))
theorem cx_if_ge (X : CallFix p m c cc nL s args GW own) {a : Int} {off : Int} {tgt : Nat} (h1 : -2147483648 ≤ a) (h2 : a ≤ 2147483647) (hdg : decode cc pc = .ok (.ifCond .ge off, 3)) (ht : (pc : Int) + off = (tgt : Int)) (kt : 0 ≤ a → W p l e R s m args below meth c H locs cells slots Q (F0 m tgt ls rest)) (kf : ¬ (0 ≤ a) → W p l e R s m args below meth c H locs cells slots Q (F0 m (pc + 3) ls rest)) : W p l e R s m args below meth c H locs cells slots Q (F0 m pc ls (.int (jI a) :: rest)) := lv_if_ge X.1 X.2.1 hdg ht (fun h => kt ((jI_le (by omega) (by omega) h1 h2).mp (by rw [jI_0]; exact h))) (fun h => kf (fun q => h (by have h9 := (jI_le (by omega) (by omega) h1 h2).mpr q; rw [jI_0] at h9; exact h9)))
theorem cx_icmp_gt (X : CallFix p m c cc nL s args GW own) {a b : Int} {off : Int} {tgt : Nat} (h1 : -2147483648 ≤ a) (h2 : a ≤ 2147483647) (h3 : -2147483648 ≤ b) (h4 : b ≤ 2147483647) (hdg : decode cc pc = .ok (.if_icmp .gt off, 3)) (ht : (pc : Int) + off = (tgt : Int)) (kt : b < a → W p l e R s m args below meth c H locs cells slots Q (F0 m tgt ls rest)) (kf : ¬ (b < a) → W p l e R s m args below meth c H locs cells slots Q (F0 m (pc + 3) ls rest)) : W p l e R s m args below meth c H locs cells slots Q (F0 m pc ls (.int (jI b) :: .int (jI a) :: rest)) := lv_icmp_gt X.1 X.2.1 hdg ht (fun h => kt ((jI_lt h3 h4 h1 h2).mp h)) (fun h => kf (fun q => h ((jI_lt h3 h4 h1 h2).mpr q)))
theorem cx_if_gt (X : CallFix p m c cc nL s args GW own) {a : Int} {off : Int} {tgt : Nat} (h1 : -2147483648 ≤ a) (h2 : a ≤ 2147483647) (hdg : decode cc pc = .ok (.ifCond .gt off, 3)) (ht : (pc : Int) + off = (tgt : Int)) (kt : 0 < a → W p l e R s m args below meth c H locs cells slots Q (F0 m tgt ls rest)) (kf : ¬ (0 < a) → W p l e R s m args below meth c H locs cells slots Q (F0 m (pc + 3) ls rest)) : W p l e R s m args below meth c H locs cells slots Q (F0 m pc ls (.int (jI a) :: rest)) := lv_if_gt X.1 X.2.1 hdg ht (fun h => kt ((jI_lt (by omega) (by omega) h1 h2).mp (by rw [jI_0]; exact h))) (fun h => kf (fun q => h (by have h9 := (jI_lt (by omega) (by omega) h1 h2).mpr q; rw [jI_0] at h9; exact h9)))
theorem cx_icmp_le (X : CallFix p m c cc nL s args GW own) {a b : Int} {off : Int} {tgt : Nat} (h1 : -2147483648 ≤ a) (h2 : a ≤ 2147483647) (h3 : -2147483648 ≤ b) (h4 : b ≤ 2147483647) (hdg : decode cc pc = .ok (.if_icmp .le off, 3)) (ht : (pc : Int) + off = (tgt : Int)) (kt : a ≤ b → W p l e R s m args below meth c H locs cells slots Q (F0 m tgt ls rest)) (kf : ¬ (a ≤ b) → W p l e R s m args below meth c H locs cells slots Q (F0 m (pc + 3) ls rest)) : W p l e R s m args below meth c H locs cells slots Q (F0 m pc ls (.int (jI b) :: .int (jI a) :: rest)) := lv_icmp_le X.1 X.2.1 hdg ht (fun h => kt ((jI_le h1 h2 h3 h4).mp h)) (fun h => kf (fun q => h ((jI_le h1 h2 h3 h4).mpr q)))
theorem cx_if_le (X : CallFix p m c cc nL s args GW own) {a : Int} {off : Int} {tgt : Nat} (h1 : -2147483648 ≤ a) (h2 : a ≤ 2147483647) (hdg : decode cc pc = .ok (.ifCond .le off, 3)) (ht : (pc : Int) + off = (tgt : Int)) (kt : a ≤ 0 → W p l e R s m args below meth c H locs cells slots Q (F0 m tgt ls rest)) (kf : ¬ (a ≤ 0) → W p l e R s m args below meth c H locs cells slots Q (F0 m (pc + 3) ls rest)) : W p l e R s m args below meth c H locs cells slots Q (F0 m pc ls (.int (jI a) :: rest)) := lv_if_le X.1 X.2.1 hdg ht (fun h => kt ((jI_le h1 h2 (by omega) (by omega)).mp (by rw [jI_0]; exact h))) (fun h => kf (fun q => h (by have h9 := (jI_le h1 h2 (by omega) (by omega)).mpr q; rw [jI_0] at h9; exact h9)))
theorem cx_lcmp_eq (X : CallFix p m c cc nL s args GW own) {a b : Int} {off : Int} {tgt : Nat} (h1 : -9223372036854775808 ≤ a) (h2 : a ≤ 9223372036854775807) (h3 : -9223372036854775808 ≤ b) (h4 : b ≤ 9223372036854775807) (hdl : decode cc pc = .ok (.lcmp, 1)) (hdg : decode cc (pc + 1) = .ok (.ifCond .eq off, 3)) (ht : ((pc + 1 : Nat) : Int) + off = (tgt : Int)) (kt : a = b → W p l e R s m args below meth c H locs cells slots Q (F0 m tgt ls rest)) (kf : ¬ (a = b) → W p l e R s m args below meth c H locs cells slots Q (F0 m (pc + 1 + 3) ls rest)) : W p l e R s m args below meth c H locs cells slots Q (F0 m pc ls (.long (jL b) :: .long (jL a) :: rest)) := W.lcmp X.1 X.2.1 hdl (lv_if_eq X.1 X.2.1 hdg ht (fun h => kt (((lg_cmp_eq _ _).trans (jL_eq h1 h2 h3 h4)).mp h)) (fun h => kf (fun q => h (((lg_cmp_eq _ _).trans (jL_eq h1 h2 h3 h4)).mpr q))))
theorem cx_lcmp_ne (X : CallFix p m c cc nL s args GW own) {a b : Int} {off : Int} {tgt : Nat} (h1 : -9223372036854775808 ≤ a) (h2 : a ≤ 9223372036854775807) (h3 : -9223372036854775808 ≤ b) (h4 : b ≤ 9223372036854775807) (hdl : decode cc pc = .ok (.lcmp, 1)) (hdg : decode cc (pc + 1) = .ok (.ifCond .ne off, 3)) (ht : ((pc + 1 : Nat) : Int) + off = (tgt : Int)) (kt : ¬ a = b → W p l e R s m args below meth c H locs cells slots Q (F0 m tgt ls rest)) (kf : a = b → W p l e R s m args below meth c H locs cells slots Q (F0 m (pc + 1 + 3) ls rest)) : W p l e R s m args below meth c H locs cells slots Q (F0 m pc ls (.long (jL b) :: .long (jL a) :: rest)) := W.lcmp X.1 X.2.1 hdl (lv_if_ne X.1 X.2.1 hdg ht (fun h => kt ((not_congr ((lg_cmp_eq _ _).trans (jL_eq h1 h2 h3 h4))).mp h)) (fun h => kf (((lg_cmp_eq _ _).trans (jL_eq h1 h2 h3 h4)).mp h)))
theorem cx_lcmp_lt (X : CallFix p m c cc nL s args GW own) {a b : Int} {off : Int} {tgt : Nat} (h1 : -9223372036854775808 ≤ a) (h2 : a ≤ 9223372036854775807) (h3 : -9223372036854775808 ≤ b) (h4 : b ≤ 9223372036854775807) (hdl : decode cc pc = .ok (.lcmp, 1)) (hdg : decode cc (pc + 1) = .ok (.ifCond .lt off, 3)) (ht : ((pc + 1 : Nat) : Int) + off = (tgt : Int)) (kt : a < b → W p l e R s m args below meth c H locs cells slots Q (F0 m tgt ls rest)) (kf : ¬ (a < b) → W p l e R s m args below meth c H locs cells slots Q (F0 m (pc + 1 + 3) ls rest)) : W p l e R s m args below meth c H locs cells slots Q (F0 m pc ls (.long (jL b) :: .long (jL a) :: rest)) := W.lcmp X.1 X.2.1 hdl (lv_if_lt X.1 X.2.1 hdg ht (fun h => kt (((lg_cmp_lt _ _).trans (jL_lt h1 h2 h3 h4)).mp h)) (fun h => kf (fun q => h (((lg_cmp_lt _ _).trans (jL_lt h1 h2 h3 h4)).mpr q))))
theorem cx_lcmp_ge (X : CallFix p m c cc nL s args GW own) {a b : Int} {off : Int} {tgt : Nat} (h1 : -9223372036854775808 ≤ a) (h2 : a ≤ 9223372036854775807) (h3 : -9223372036854775808 ≤ b) (h4 : b ≤ 9223372036854775807) (hdl : decode cc pc = .ok (.lcmp, 1)) (hdg : decode cc (pc + 1) = .ok (.ifCond .ge off, 3)) (ht : ((pc + 1 : Nat) : Int) + off = (tgt : Int)) (kt : b ≤ a → W p l e R s m args below meth c H locs cells slots Q (F0 m tgt ls rest)) (kf : ¬ (b ≤ a) → W p l e R s m args below meth c H locs cells slots Q (F0 m (pc + 1 + 3) ls rest)) : W p l e R s m args below meth c H locs cells slots Q (F0 m pc ls (.long (jL b) :: .long (jL a) :: rest)) := W.lcmp X.1 X.2.1 hdl (lv_if_ge X.1 X.2.1 hdg ht (fun h => kt (((lg_cmp_ge _ _).trans (jL_le h3 h4 h1 h2)).mp h)) (fun h => kf (fun q => h (((lg_cmp_ge _ _).trans (jL_le h3 h4 h1 h2)).mpr q))))
theorem cx_lcmp_gt (X : CallFix p m c cc nL s args GW own) {a b : Int} {off : Int} {tgt : Nat} (h1 : -9223372036854775808 ≤ a) (h2 : a ≤ 9223372036854775807) (h3 : -9223372036854775808 ≤ b) (h4 : b ≤ 9223372036854775807) (hdl : decode cc pc = .ok (.lcmp, 1)) (hdg : decode cc (pc + 1) = .ok (.ifCond .gt off, 3)) (ht : ((pc + 1 : Nat) : Int) + off = (tgt : Int)) (kt : b < a → W p l e R s m args below meth c H locs cells slots Q (F0 m tgt ls rest)) (kf : ¬ (b < a) → W p l e R s m args below meth c H locs cells slots Q (F0 m (pc + 1 + 3) ls rest)) : W p l e R s m args below meth c H locs cells slots Q (F0 m pc ls (.long (jL b) :: .long (jL a) :: rest)) := W.lcmp X.1 X.2.1 hdl (lv_if_gt X.1 X.2.1 hdg ht (fun h => kt (((lg_cmp_gt _ _).trans (jL_lt h3 h4 h1 h2)).mp h)) (fun h => kf (fun q => h (((lg_cmp_gt _ _).trans (jL_lt h3 h4 h1 h2)).mpr q))))
theorem cx_lcmp_le (X : CallFix p m c cc nL s args GW own) {a b : Int} {off : Int} {tgt : Nat} (h1 : -9223372036854775808 ≤ a) (h2 : a ≤ 9223372036854775807) (h3 : -9223372036854775808 ≤ b) (h4 : b ≤ 9223372036854775807) (hdl : decode cc pc = .ok (.lcmp, 1)) (hdg : decode cc (pc + 1) = .ok (.ifCond .le off, 3)) (ht : ((pc + 1 : Nat) : Int) + off = (tgt : Int)) (kt : a ≤ b → W p l e R s m args below meth c H locs cells slots Q (F0 m tgt ls rest)) (kf : ¬ (a ≤ b) → W p l e R s m args below meth c H locs cells slots Q (F0 m (pc + 1 + 3) ls rest)) : W p l e R s m args below meth c H locs cells slots Q (F0 m pc ls (.long (jL b) :: .long (jL a) :: rest)) := W.lcmp X.1 X.2.1 hdl (lv_if_le X.1 X.2.1 hdg ht (fun h => kt (((lg_cmp_le _ _).trans (jL_le h1 h2 h3 h4)).mp h)) (fun h => kf (fun q => h (((lg_cmp_le _ _).trans (jL_le h1 h2 h3 h4)).mpr q))))
theorem cx_ifeqB (X : CallFix p m c cc nL s args GW own) {P : Prop} {off : Int} {tgt : Nat} (hdg : decode cc pc = .ok (.ifCond .eq off, 3)) (ht : (pc : Int) + off = (tgt : Int)) (kt : ¬ P → W p l e R s m args below meth c H locs cells slots Q (F0 m tgt ls rest)) (kf : P → W p l e R s m args below meth c H locs cells slots Q (F0 m (pc + 3) ls rest)) : W p l e R s m args below meth c H locs cells slots Q (F0 m pc ls (.int (jI (jB P)) :: rest)) := by
  have hr := jB_r P
  refine cx_if_eq X (by omega) (by omega) hdg ht (fun h => kt (fun q => ?_)) (fun h => ?_)
  · rw [jB_t q] at h; omega
  · by_cases q : P
    · exact kf q
    · exact absurd (jB_f q) h
theorem cx_ifneB (X : CallFix p m c cc nL s args GW own) {P : Prop} {off : Int} {tgt : Nat} (hdg : decode cc pc = .ok (.ifCond .ne off, 3)) (ht : (pc : Int) + off = (tgt : Int)) (kt : P → W p l e R s m args below meth c H locs cells slots Q (F0 m tgt ls rest)) (kf : ¬ P → W p l e R s m args below meth c H locs cells slots Q (F0 m (pc + 3) ls rest)) : W p l e R s m args below meth c H locs cells slots Q (F0 m pc ls (.int (jI (jB P)) :: rest)) := by
  have hr := jB_r P
  refine cx_if_ne X (by omega) (by omega) hdg ht (fun h => ?_) (fun h => kf (fun q => ?_))
  · by_cases q : P
    · exact kt q
    · exact absurd (jB_f q) h
  · rw [jB_t q] at h; omega
variable {u : cx_U} {A : Nat → Prop} {w : cx_W} {a : Nat}
theorem cx_get (X : CallFix p m c cc nL s args GW own) (B : cx_B u A w s H locs) {C : String} {T : u_T} {N ci index k i : Nat} {fs : List Value} {v : Value} (he : w k i = some (a, .inr (ci, fs))) (hc : vw_cl[ci]? = some (C, T, N)) (hin : ∀ x ∈ u_ws C T N, x ∈ GW) (f : Nat) (hk : f < N) (hl : Cond.fieldLink own index (T f).1 (T f).2.1 (T f).2.2.1 ∈ GW) (hv : fs[f]? = some v) (hdg : decode cc pc = .ok (.getfield index, 3))
    (kk : W p l e R s m args below meth c H locs cells slots Q (F0 m (pc + 3) ls (v :: rest))) : W p l e R s m args below meth c H locs cells slots Q (F0 m pc ls (.ref a :: rest)) :=
  va_get (ref := (T f).1) X.1 X.2.1 X.2.2.2.2 hin X.2.2.2.1 B.1 (B.2.1.one he) 0 rfl hc f hk (X.2.2.2.2 _ hl) (fun _ h => h) hv hdg kk
theorem cx_put (X : CallFix p m c cc nL s args GW own) (B : cx_B u A w s H locs) {C : String} {T : u_T} {N ci index k i : Nat} {fs : List Value} {v : Value} {ty : FieldType} (he : w k i = some (a, .inr (ci, fs))) (hc : vw_cl[ci]? = some (C, T, N)) (hin : ∀ x ∈ u_ws C T N, x ∈ GW) (ty0 : Nat → FieldType) (hty : ∀ k, k < N → parseFieldDescriptor (T k).2.2.1 = some (ty0 k)) (hnm : ∀ a, a < N → ∀ b, b < N → a ≠ b → (T a).2.1 ≠ (T b).2.1) (f : Nat) (hk : f < N) (hl : Cond.fieldLink own index (T f).1 (T f).2.1 (T f).2.2.1 ∈ GW) (hfin : (T f).2.2.2 = false) (hd : parseFieldDescriptor (T f).2.2.1 = some ty) (hn : narrow ty v = v) (hfit : fits ty v = true) (hln : f < fs.length) (hdg : decode cc pc = .ok (.putfield index, 3))
    (kk : ∀ (H : Heap) (locs : List Loc), cx_B u A (cx_up w k i (a, .inr (ci, fs.set f v))) s H locs → W p l e R s m args below meth c H locs cells slots Q (F0 m (pc + 3) ls rest)) : W p l e R s m args below meth c H locs cells slots Q (F0 m pc ls (v :: .ref a :: rest)) := by
  obtain ⟨hK, hP, hD, hS0, hA, hE⟩ := B
  have hts := X.2.2.2.2
  have hap := va_apart (own := own) hts hin ty0 hty hnm hK hc
  obtain ⟨r, h1, cell, q1, q2, q3, q4⟩ := hP k i _ he
  have hr : r = (C, T, N) := Option.some.inj (h1.symm.trans hc)
  subst hr
  obtain ⟨hS, hfc, kC, hkC, hkind⟩ := hK.1 ci _ hc
  obtain ⟨cf, kf, fi, fd, hi, hsl⟩ := hS f hk
  have hlay := hts _ (hin _ (u_in_lay hk))
  unfold u_lay at hlay
  rw [if_neg (by rw [hfin]; decide)] at hlay
  have hst := (u_facts hfc hkC (u_lays hts hin hk) hi).1
  have h6 := u_store hfc hkC hkind hlay hi hd hn hfit
  refine W.putK X.1 X.2.1 (f := fd) ⟨X.2.2.2.1, hts _ hl, ⟨_, _, _, hi⟩, hst⟩ (by rw [q2]; exact h6) q1 q3 (by rw [hsl]; exact k2_hasslot (q4 f hk)) rfl rfl hdg fun H' e1 e2 e3 => ?_
  rw [hsl] at e1 ⊢
  exact kk H' _ ⟨hK, hP.set hD he ⟨_, hc, t_OB.to (V := updV (vp_V fs) f v) ⟨_, e1, q2, q3, t_set q4 hap hk v⟩ (fun j _ => vp_updV_set hln v j)⟩ e3, hD.set he, hS0.put e2 e3 (hD.2 k i _ he), hA, hE⟩
theorem cx_putF (X : CallFix p m c cc nL s args GW own) (B : cx_B u A w s H locs) {C : String} {T : u_T} {N ci index k i : Nat} {fs : List Value} {v : Value} {ty : FieldType} (he : w k i = some (a, .inr (ci, fs))) (hc : vw_cl[ci]? = some (C, T, N)) (hin : ∀ x ∈ u_ws C T N, x ∈ GW) (ty0 : Nat → FieldType) (hty : ∀ k, k < N → parseFieldDescriptor (T k).2.2.1 = some (ty0 k)) (hnm : ∀ a, a < N → ∀ b, b < N → a ≠ b → (T a).2.1 ≠ (T b).2.1) (f : Nat) (hk : f < N) (hl : Cond.fieldLink own index (T f).1 (T f).2.1 (T f).2.2.1 ∈ GW) (hfin : (T f).2.2.2 = true) (hin2 : meth.name = "<init>") (hdecl : (T f).1 = own) (hd : parseFieldDescriptor (T f).2.2.1 = some ty) (hn : narrow ty v = v) (hfit : fits ty v = true) (hln : f < fs.length) (hdg : decode cc pc = .ok (.putfield index, 3))
    (kk : ∀ (H : Heap) (locs : List Loc), cx_B u A (cx_up w k i (a, .inr (ci, fs.set f v))) s H locs → W p l e R s m args below meth c H locs cells slots Q (F0 m (pc + 3) ls rest)) : W p l e R s m args below meth c H locs cells slots Q (F0 m pc ls (v :: .ref a :: rest)) := by
  obtain ⟨hK, hP, hD, hS0, hA, hE⟩ := B
  have hts := X.2.2.2.2
  have hap := va_apart (own := own) hts hin ty0 hty hnm hK hc
  obtain ⟨r, h1, cell, q1, q2, q3, q4⟩ := hP k i _ he
  have hr : r = (C, T, N) := Option.some.inj (h1.symm.trans hc)
  subst hr
  obtain ⟨hS, hfc, kC, hkC, hkind⟩ := hK.1 ci _ hc
  obtain ⟨cf, kf, fi, fd, hi, hsl⟩ := hS f hk
  have hlay := hts _ (hin _ (u_in_lay hk))
  unfold u_lay at hlay
  rw [if_pos hfin] at hlay
  have hst := (u_facts hfc hkC (u_lays hts hin hk) hi).1
  have hcf : m.cls = cf := by
    obtain ⟨_, _, c', _, _, _, -, -, hf', -, -, -, hown2, -⟩ := Cond.laysFinal_spec hlay
    have e1 : c' = cf := by have := hi.symm.trans hf'; simp at this; exact this.1.symm
    rw [hdecl] at hown2
    rw [← e1]; exact Option.some.inj (X.2.2.2.1.symm.trans hown2)
  have h6 := u_fits hfc hkC hkind (Or.inr hlay) hi hd hn hfit
  refine W.putFinK X.1 X.2.1 X.2.2.2.1 (hts _ hl) hi hst hcf hin2 (by rw [q2]; exact h6) q1 q3 (by rw [hsl]; exact k2_hasslot (q4 f hk)) rfl rfl hdg fun H' e1 e2 e3 => ?_
  rw [hsl] at e1 ⊢
  exact kk H' _ ⟨hK, hP.set hD he ⟨_, hc, t_OB.to (V := updV (vp_V fs) f v) ⟨_, e1, q2, q3, t_set q4 hap hk v⟩ (fun j _ => vp_updV_set hln v j)⟩ e3, hD.set he, hS0.put e2 e3 (hD.2 k i _ he), hA, hE⟩
theorem cx_iald (X : CallFix p m c cc nL s args GW own) (B : cx_B u A w s H locs) {k i n : Nat} {f : Nat → Int} {j : Int} (he : w k i = some (a, .inl (u.2 0, n, .inl (fun x => jI (f x))))) (jn : Nat) (hj : j = jn) (h2 : jn < n) (h3 : n ≤ 2147483647) (hdg : decode cc pc = .ok (.iaload, 1)) (kk : W p l e R s m args below meth c H locs cells slots Q (F0 m (pc + 1) ls (.int (jI (f jn)) :: rest))) : W p l e R s m args below meth c H locs cells slots Q (F0 m pc ls (.int (jI j) :: .ref a :: rest)) :=
  va_iald X.1 X.2.1 B.1 (B.2.1.one he) 0 0 rfl rfl (jI_in (by omega) (by omega) h3) hdg (by rw [jI_c (by omega) (by omega), show j.toNat = jn by omega]; exact kk)
theorem cx_lald (X : CallFix p m c cc nL s args GW own) (B : cx_B u A w s H locs) {k i n : Nat} {f : Nat → Int} {j : Int} (he : w k i = some (a, .inl (u.2 1, n, .inr (.inl (fun x => jL (f x)))))) (jn : Nat) (hj : j = jn) (h2 : jn < n) (h3 : n ≤ 2147483647) (hdg : decode cc pc = .ok (.laload, 1)) (kk : W p l e R s m args below meth c H locs cells slots Q (F0 m (pc + 1) ls (.long (jL (f jn)) :: rest))) : W p l e R s m args below meth c H locs cells slots Q (F0 m pc ls (.int (jI j) :: .ref a :: rest)) :=
  va_lald X.1 X.2.1 B.1 (B.2.1.one he) 0 1 rfl rfl (jI_in (by omega) (by omega) h3) hdg (by rw [jI_c (by omega) (by omega), show j.toNat = jn by omega]; exact kk)
theorem cx_aald (X : CallFix p m c cc nL s args GW own) (B : cx_B u A w s H locs) {k i n : Nat} {f : Nat → Option Nat} {j : Int} (he : w k i = some (a, .inl (u.2 3, n, .inr (.inr (.inr (.inr f)))))) (jn : Nat) (hj : j = jn) (h2 : jn < n) (h3 : n ≤ 2147483647) (hdg : decode cc pc = .ok (.aaload, 1)) (kk : W p l e R s m args below meth c H locs cells slots Q (F0 m (pc + 1) ls (va_rf (f jn) :: rest))) : W p l e R s m args below meth c H locs cells slots Q (F0 m pc ls (.int (jI j) :: .ref a :: rest)) :=
  va_aldq X.1 X.2.1 B.1 (B.2.1.one he) 0 3 rfl rfl (jI_in (by omega) (by omega) h3) hdg (by rw [jI_c (by omega) (by omega), show j.toNat = jn by omega]; exact kk)
theorem cx_alen (X : CallFix p m c cc nL s args GW own) (B : cx_B u A w s H locs) (t0 : Nat) {k i cA : Nat} {x : vp_A} {ty : FieldType} {n : Int} (he : w k i = some (a, .inl (cA, x))) (ht : (cx_ty u.2)[t0]? = some (cA, ty)) (hn : Int32.ofNat x.1 = jI n) (hdg : decode cc pc = .ok (.arraylength, 1)) (kk : W p l e R s m args below meth c H locs cells slots Q (F0 m (pc + 1) ls (.int (jI n) :: rest))) : W p l e R s m args below meth c H locs cells slots Q (F0 m pc ls (.ref a :: rest)) :=
  va_alen X.1 X.2.1 B.1 (B.2.1.one he) 0 t0 rfl ht hn hdg kk
theorem cx_zald (X : CallFix p m c cc nL s args GW own) (B : cx_B u A w s H locs) {k i n : Nat} {f : Nat → Int} {j : Int} (he : w k i = some (a, .inl (u.2 2, n, .inl (fun x => jI (f x))))) (jn : Nat) (hj : j = jn) (h2 : jn < n) (h3 : n ≤ 2147483647) (hdg : decode cc pc = .ok (.baload, 1)) (kk : W p l e R s m args below meth c H locs cells slots Q (F0 m (pc + 1) ls (.int (jI (f jn)) :: rest))) : W p l e R s m args below meth c H locs cells slots Q (F0 m pc ls (.int (jI j) :: .ref a :: rest)) :=
  va_zald X.1 X.2.1 B.1 (B.2.1.one he) 0 2 rfl rfl (jI_in (by omega) (by omega) h3) hdg (by rw [jI_c (by omega) (by omega), show j.toNat = jn by omega]; exact kk)
theorem cx_zast (X : CallFix p m c cc nL s args GW own) (B : cx_B u A w s H locs) {k i n : Nat} {f : Nat → Int} {j x0 : Int} (he : w k i = some (a, .inl (u.2 2, n, .inl (fun x => jI (f x))))) (jn : Nat) (hj : j = jn) (h2 : jn < n) (h3 : n ≤ 2147483647) (h4 : 0 ≤ x0) (h5 : x0 ≤ 1) (hdg : decode cc pc = .ok (.bastore, 1))
    (kk : ∀ (H : Heap) (locs : List Loc), cx_B u A (cx_up w k i (a, .inl (u.2 2, n, .inl (fun x => jI (va_up f jn x0 x))))) s H locs → W p l e R s m args below meth c H locs cells slots Q (F0 m (pc + 1) ls rest)) : W p l e R s m args below meth c H locs cells slots Q (F0 m pc ls (.int (jI x0) :: .int (jI j) :: .ref a :: rest)) := by
  obtain ⟨hK, hP, hD, hS, hA, hE⟩ := B
  have hin : vp_in (jI j) n := jI_in (by omega) (by omega) h3
  have hnr : narrow .boolean (.int (jI x0)) = .int (jI x0) := by rcases (show x0 = 0 ∨ x0 = 1 by omega) with rfl | rfl <;> decide +kernel
  refine W.zast X.1 X.2.1 (hP k i _ he) ((hK.2 2 (u.2 2, .boolean) rfl).1 n (fun y => .int (jI (f y)))) (fun q => by cases q) (by show ¬ (jI j < 0 ∨ (arrV _ _ _).slots.size ≤ _); rw [arrV_size]; exact hin) rfl rfl hdg fun H1 e1 z oq => ?_
  refine kk H1 _ ⟨hK, hP.set hD he ?_ oq, hD.set he, hS.put z oq (hD.2 k i _ he), hA, hE⟩
  show H1[a]? = some (vp_cell _ _)
  rw [e1, hnr, vp_cell_i, vp_cell_i, arrV_store, jI_c (by omega) (by omega), show j.toNat = jn by omega]
  congr 2
  funext q
  by_cases hq : q = jn
  · subst hq
    simp [updV, va_up]
  · simp [updV, va_up, hq]
theorem cx_iast (X : CallFix p m c cc nL s args GW own) (B : cx_B u A w s H locs) {k i n : Nat} {f : Nat → Int} {j x0 : Int} (he : w k i = some (a, .inl (u.2 0, n, .inl (fun x => jI (f x))))) (jn : Nat) (hj : j = jn) (h2 : jn < n) (h3 : n ≤ 2147483647) (hdg : decode cc pc = .ok (.iastore, 1))
    (kk : ∀ (H : Heap) (locs : List Loc), cx_B u A (cx_up w k i (a, .inl (u.2 0, n, .inl (fun x => jI (va_up f jn x0 x))))) s H locs → W p l e R s m args below meth c H locs cells slots Q (F0 m (pc + 1) ls rest)) : W p l e R s m args below meth c H locs cells slots Q (F0 m pc ls (.int (jI x0) :: .int (jI j) :: .ref a :: rest)) := by
  obtain ⟨hK, hP, hD, hS, hA, hE⟩ := B
  have hin : vp_in (jI j) n := jI_in (by omega) (by omega) h3
  refine W.iast X.1 X.2.1 (hP k i _ he) ((hK.2 0 (u.2 0, .int) rfl).1 n (fun y => .int (jI (f y)))) (fun q => by cases q) (by show ¬ (jI j < 0 ∨ (arrV _ _ _).slots.size ≤ _); rw [arrV_size]; exact hin) rfl rfl hdg fun H1 e1 z oq => ?_
  refine kk H1 _ ⟨hK, hP.set hD he ?_ oq, hD.set he, hS.put z oq (hD.2 k i _ he), hA, hE⟩
  show H1[a]? = some (vp_cell _ _)
  rw [e1, vp_cell_i, vp_cell_i, arrV_store, jI_c (by omega) (by omega), show j.toNat = jn by omega]
  congr 2
  funext q
  by_cases hq : q = jn
  · subst hq
    simp [updV, va_up]
  · simp [updV, va_up, hq]
theorem cx_last (X : CallFix p m c cc nL s args GW own) (B : cx_B u A w s H locs) {k i n : Nat} {f : Nat → Int} {j x0 : Int} (he : w k i = some (a, .inl (u.2 1, n, .inr (.inl (fun x => jL (f x)))))) (jn : Nat) (hj : j = jn) (h2 : jn < n) (h3 : n ≤ 2147483647) (hdg : decode cc pc = .ok (.lastore, 1))
    (kk : ∀ (H : Heap) (locs : List Loc), cx_B u A (cx_up w k i (a, .inl (u.2 1, n, .inr (.inl (fun x => jL (va_up f jn x0 x)))))) s H locs → W p l e R s m args below meth c H locs cells slots Q (F0 m (pc + 1) ls rest)) : W p l e R s m args below meth c H locs cells slots Q (F0 m pc ls (.long (jL x0) :: .int (jI j) :: .ref a :: rest)) := by
  obtain ⟨hK, hP, hD, hS, hA, hE⟩ := B
  have hin : vp_in (jI j) n := jI_in (by omega) (by omega) h3
  refine W.last X.1 X.2.1 (hP k i _ he) ((hK.2 1 (u.2 1, .long) rfl).1 n (fun y => .long (jL (f y)))) (fun q => by cases q) (by show ¬ (jI j < 0 ∨ (arrV _ _ _).slots.size ≤ _); rw [arrV_size]; exact hin) rfl rfl hdg fun H1 e1 z oq => ?_
  refine kk H1 _ ⟨hK, hP.set hD he ?_ oq, hD.set he, hS.put z oq (hD.2 k i _ he), hA, hE⟩
  show H1[a]? = some (vp_cell _ _)
  rw [e1, vp_cell_l, vp_cell_l, arrV_store, jI_c (by omega) (by omega), show j.toNat = jn by omega]
  congr 2
  funext q
  by_cases hq : q = jn
  · subst hq
    simp [updV, va_up]
  · simp [updV, va_up, hq]
theorem cx_aast (X : CallFix p m c cc nL s args GW own) (B : cx_B u A w s H locs) {k i k2 i2 n v : Nat} {vs : List Value} {f : Nat → Option Nat} {j : Int} (he : w k i = some (a, .inl (u.2 3, n, .inr (.inr (.inr (.inr f)))))) (hv : w k2 i2 = some (v, .inr (2, vs))) (jn : Nat) (hj : j = jn) (h2 : jn < n) (h3 : n ≤ 2147483647) (hdg : decode cc pc = .ok (.aastore, 1))
    (kk : ∀ (H : Heap) (locs : List Loc), cx_B u A (cx_up w k i (a, .inl (u.2 3, n, .inr (.inr (.inr (.inr (va_up f jn (some v)))))))) s H locs → W p l e R s m args below meth c H locs cells slots Q (F0 m (pc + 1) ls rest)) : W p l e R s m args below meth c H locs cells slots Q (F0 m pc ls (.ref v :: .int (jI j) :: .ref a :: rest)) := by
  obtain ⟨hK, hP, hD, hS, hA, hE⟩ := B
  have hlt : (jI j).toNatClampNeg < n := by rw [jI_c (by omega) (by omega)]; omega
  have h0 : ¬ jI j < 0 := by rw [← jI_0, jI_lt (by omega) (by omega) (by omega) (by omega)]; omega
  obtain ⟨-, kA, comp, g1, g2, g3, g4⟩ := hK.2 3 (u.2 3, .object "CatchShares$Stock") rfl
  obtain ⟨r', h5, cell, c1, c2, c3, -⟩ := hP k2 i2 _ hv
  obtain ⟨-, hfc, kC, hkC, hkind⟩ := hK.1 2 (na_S, fT_S, 11) rfl
  have hce : comp = u.1.1 2 := Option.some.inj (g3.symm.trans hfc)
  subst hce
  refine W.aast X.1 X.2.1 (hP k i _ he) (fun q h => by cases h) (fun h => by cases h) (k := kA) (by exact g1) g2 rfl hkC ⟨h0, by show _ < (arrV _ _ _).slots.size; rw [arrV_size]; exact hlt⟩ c1 (fun q h => by rw [c3] at h; cases h) (by rw [c2]; exact hkC) (by rw [c2]; exact va_assign ⟨hfc, kC, hkC, hkind⟩) rfl rfl hdg fun H1 e1 z oq => ?_
  refine kk H1 _ ⟨hK, hP.set hD he ?_ oq, hD.set he, hS.put z oq (hD.2 k i _ he), hA, hE⟩
  show H1[a]? = some (vp_cell _ _)
  rw [e1, vp_cell_q, vp_cell_q, arrV_store, jI_c (by omega) (by omega), show j.toNat = jn by omega]
  congr 2
  funext q
  by_cases hq : q = jn
  · subst hq
    simp [updV, va_up, va_rf]
  · simp [updV, va_up, hq]
theorem cx_new (X : CallFix p m c cc nL s args GW own) (B : cx_B u A w s H locs) {C : String} {T : u_T} {N ci index : Nat} (k i : Nat) {fs : List Value} (hin : ∀ x ∈ u_ws C T N, x ∈ GW) (ty : Nat → FieldType) (hty : ∀ k, k < N → parseFieldDescriptor (T k).2.2.1 = some (ty k)) (hl : Cond.classLink own index C ∈ GW) (hins : Cond.instantiable C N ∈ GW) (hini : Cond.initialized C ∈ GW) (hc : vw_cl[ci]? = some (C, T, N)) (hfs : ∀ j, j < N → defaultValue (ty j) = vp_V fs j) (hcells : cells + 1 ≤ R.cells) (hslots : slots + N ≤ R.slots) (hdg : decode cc pc = .ok (.new index, 3))
    (kk : ∀ (q : Nat) (H1 : Heap), cx_B u A (cx_up w k i (q, .inr (ci, fs))) s H1 locs → W p l e R s m args below meth c H1 locs (cells + 1) (slots + N) Q (F0 m (pc + 3) ls (.ref q :: rest))) : W p l e R s m args below meth c H locs cells slots Q (F0 m pc ls rest) := by
  obtain ⟨hK, hP, hD, hS, hA, hE⟩ := B
  have hts := X.2.2.2.2
  have hKn := hK.1 ci _ hc
  refine W.newcK X.1 X.2.1 X.2.2.2.1 (hts _ hl) (hts _ hins) (hts _ hini) rfl hdg hcells hslots hKn.2.1 rfl fun H1 kC hkC e1 z1 o1 => ?_
  refine kk H.size H1 ⟨hK, fun k' i' x hx => ?_, hD.push hP rfl (hA _ hS.1), ⟨Nat.le_trans hS.1 (by omega), fun x h1 h2 => (o1 x (Nat.lt_of_lt_of_le h1 hS.1)).trans (hS.2.1 x h1 h2), hS.2.2⟩, hA, hE⟩
  by_cases hk : k' = k ∧ i' = i
  · obtain ⟨rfl, rfl⟩ := hk
    rw [cx_up_s] at hx
    cases hx
    exact ⟨_, hc, (u_born ty hts hin hKn hkC e1 hty).to hfs⟩
  · rw [cx_up_n w _ hk] at hx
    exact (hP k' i' x hx).kept (o1 x.1 ((hP k' i' x hx).lt))
theorem cx_newI (X : CallFix p m c cc nL s args GW own) (B : cx_B u A w s H locs) (k i : Nat) {atype : ArrayType} (hty : newarray.typeOf atype = .int) (harr : Cond.arrayClass .int ∈ GW) {n : Int} {N' : Nat} (h1 : 0 ≤ n) (h2 : n ≤ 1000000) (hN : n = N') (hcells : cells + 1 ≤ R.cells) (hslots : slots + N' ≤ R.slots) (hdg : decode cc pc = .ok (.newarray atype, 2))
    (kk : ∀ (q : Nat) (H1 : Heap), cx_B u A (cx_up w k i (q, .inl (u.2 0, N', .inl (fun _ => jI 0)))) s H1 locs → W p l e R s m args below meth c H1 locs (cells + 1) (slots + N') Q (F0 m (pc + 2) ls (.ref q :: rest))) : W p l e R s m args below meth c H locs cells slots Q (F0 m pc ls (.int (jI n) :: rest)) := by
  obtain ⟨hK, hP, hD, hS, hA, hE⟩ := B
  have h0 : ¬ jI n < 0 := by rw [← jI_0, jI_lt (by omega) (by omega) (by omega) (by omega)]; omega
  refine va_newaK X.1 X.2.1 (by rw [hty]; exact X.2.2.2.2 _ harr) rfl hdg rfl h0 (N := N') (by rw [jI_c h1 (by omega)]; omega) (by rw [hty]; show N' * _ ≤ _; simp only [componentBytes]; omega) hcells hslots rfl fun H1 cA' e1 z1 o1 hAr hNm => ?_
  have hc : cA' = u.2 0 := by
    have h9 := (hK.2 0 (u.2 0, .int) rfl).2
    rw [hty] at hNm
    exact Option.some.inj (hNm.symm.trans h9)
  subst hc
  refine kk H.size H1 ⟨hK, fun k' i' x hx => ?_, hD.push hP rfl (hA _ hS.1), ⟨Nat.le_trans hS.1 (by omega), fun x h1 h2 => (o1 x (Nat.lt_of_lt_of_le h1 hS.1)).trans (hS.2.1 x h1 h2), hS.2.2⟩, hA, hE⟩
  by_cases hk : k' = k ∧ i' = i
  · obtain ⟨rfl, rfl⟩ := hk
    rw [cx_up_s] at hx
    cases hx
    show H1[H.size]? = some (vp_cell _ _)
    rw [e1, hty, vp_cell_i]
    rfl
  · rw [cx_up_n w _ hk] at hx
    exact (hP k' i' x hx).kept (o1 x.1 ((hP k' i' x hx).lt))
theorem cx_newL (X : CallFix p m c cc nL s args GW own) (B : cx_B u A w s H locs) (k i : Nat) {atype : ArrayType} (hty : newarray.typeOf atype = .long) (harr : Cond.arrayClass .long ∈ GW) {n : Int} {N' : Nat} (h1 : 0 ≤ n) (h2 : n ≤ 1000000) (hN : n = N') (hcells : cells + 1 ≤ R.cells) (hslots : slots + N' ≤ R.slots) (hdg : decode cc pc = .ok (.newarray atype, 2))
    (kk : ∀ (q : Nat) (H1 : Heap), cx_B u A (cx_up w k i (q, .inl (u.2 1, N', .inr (.inl (fun _ => jL 0))))) s H1 locs → W p l e R s m args below meth c H1 locs (cells + 1) (slots + N') Q (F0 m (pc + 2) ls (.ref q :: rest))) : W p l e R s m args below meth c H locs cells slots Q (F0 m pc ls (.int (jI n) :: rest)) := by
  obtain ⟨hK, hP, hD, hS, hA, hE⟩ := B
  have h0 : ¬ jI n < 0 := by rw [← jI_0, jI_lt (by omega) (by omega) (by omega) (by omega)]; omega
  refine va_newaK X.1 X.2.1 (by rw [hty]; exact X.2.2.2.2 _ harr) rfl hdg rfl h0 (N := N') (by rw [jI_c h1 (by omega)]; omega) (by rw [hty]; show N' * _ ≤ _; simp only [componentBytes]; omega) hcells hslots rfl fun H1 cA' e1 z1 o1 hAr hNm => ?_
  have hc : cA' = u.2 1 := by
    have h9 := (hK.2 1 (u.2 1, .long) rfl).2
    rw [hty] at hNm
    exact Option.some.inj (hNm.symm.trans h9)
  subst hc
  refine kk H.size H1 ⟨hK, fun k' i' x hx => ?_, hD.push hP rfl (hA _ hS.1), ⟨Nat.le_trans hS.1 (by omega), fun x h1 h2 => (o1 x (Nat.lt_of_lt_of_le h1 hS.1)).trans (hS.2.1 x h1 h2), hS.2.2⟩, hA, hE⟩
  by_cases hk : k' = k ∧ i' = i
  · obtain ⟨rfl, rfl⟩ := hk
    rw [cx_up_s] at hx
    cases hx
    show H1[H.size]? = some (vp_cell _ _)
    rw [e1, hty, vp_cell_l]
    rfl
  · rw [cx_up_n w _ hk] at hx
    exact (hP k' i' x hx).kept (o1 x.1 ((hP k' i' x hx).lt))
theorem cx_newZ (X : CallFix p m c cc nL s args GW own) (B : cx_B u A w s H locs) (k i : Nat) {atype : ArrayType} (hty : newarray.typeOf atype = .boolean) (harr : Cond.arrayClass .boolean ∈ GW) {n : Int} {N' : Nat} (h1 : 0 ≤ n) (h2 : n ≤ 1000000) (hN : n = N') (hcells : cells + 1 ≤ R.cells) (hslots : slots + N' ≤ R.slots) (hdg : decode cc pc = .ok (.newarray atype, 2))
    (kk : ∀ (q : Nat) (H1 : Heap), cx_B u A (cx_up w k i (q, .inl (u.2 2, N', .inl (fun _ => jI 0)))) s H1 locs → W p l e R s m args below meth c H1 locs (cells + 1) (slots + N') Q (F0 m (pc + 2) ls (.ref q :: rest))) : W p l e R s m args below meth c H locs cells slots Q (F0 m pc ls (.int (jI n) :: rest)) := by
  obtain ⟨hK, hP, hD, hS, hA, hE⟩ := B
  have h0 : ¬ jI n < 0 := by rw [← jI_0, jI_lt (by omega) (by omega) (by omega) (by omega)]; omega
  refine va_newaK X.1 X.2.1 (by rw [hty]; exact X.2.2.2.2 _ harr) rfl hdg rfl h0 (N := N') (by rw [jI_c h1 (by omega)]; omega) (by rw [hty]; show N' * _ ≤ _; simp only [componentBytes]; omega) hcells hslots rfl fun H1 cA' e1 z1 o1 hAr hNm => ?_
  have hc : cA' = u.2 2 := by
    have h9 := (hK.2 2 (u.2 2, .boolean) rfl).2
    rw [hty] at hNm
    exact Option.some.inj (hNm.symm.trans h9)
  subst hc
  refine kk H.size H1 ⟨hK, fun k' i' x hx => ?_, hD.push hP rfl (hA _ hS.1), ⟨Nat.le_trans hS.1 (by omega), fun x h1 h2 => (o1 x (Nat.lt_of_lt_of_le h1 hS.1)).trans (hS.2.1 x h1 h2), hS.2.2⟩, hA, hE⟩
  by_cases hk : k' = k ∧ i' = i
  · obtain ⟨rfl, rfl⟩ := hk
    rw [cx_up_s] at hx
    cases hx
    show H1[H.size]? = some (vp_cell _ _)
    rw [e1, hty, vp_cell_i]
    rfl
  · rw [cx_up_n w _ hk] at hx
    exact (hP k' i' x hx).kept (o1 x.1 ((hP k' i' x hx).lt))
theorem cx_newq (X : CallFix p m c cc nL s args GW own) (B : cx_B u A w s H locs) (k i : Nat) {index : Nat} (hl : Cond.classLink own index "CatchShares$Stock" ∈ GW) {n : Int} {N' : Nat} (h1 : 0 ≤ n) (h2 : n ≤ 1000000) (hN : n = N') (hcells : cells + 1 ≤ R.cells) (hslots : slots + N' ≤ R.slots) (hdg : decode cc pc = .ok (.anewarray index, 3))
    (kk : ∀ (q : Nat) (H1 : Heap), cx_B u A (cx_up w k i (q, .inl (u.2 3, N', .inr (.inr (.inr (.inr (fun _ => none))))))) s H1 locs → W p l e R s m args below meth c H1 locs (cells + 1) (slots + N') Q (F0 m (pc + 3) ls (.ref q :: rest))) : W p l e R s m args below meth c H locs cells slots Q (F0 m pc ls (.int (jI n) :: rest)) := by
  obtain ⟨hK, hP, hD, hS, hA, hE⟩ := B
  have h0 : ¬ jI n < 0 := by rw [← jI_0, jI_lt (by omega) (by omega) (by omega) (by omega)]; omega
  have hNc : (jI n).toNatClampNeg = N' := by rw [jI_c h1 (by omega)]; omega
  refine W.anew X.1 X.2.1 X.2.2.2.1 (X.2.2.2.2 _ hl) (va_AO.use hE.1) rfl hdg rfl h0 (by rw [hNc]; omega) hcells (by rw [hNc]; exact hslots) fun cA' kA comp f1 f2 f3 f4 => ?_
  rw [hNc]
  have hc : cA' = u.2 3 := by
    obtain ⟨kA2, comp2, g1, g2, g3, g4⟩ := (hK.2 3 (u.2 3, .object "CatchShares$Stock") rfl).2
    exact Option.some.inj (f1.symm.trans g4)
  subst hc
  generalize hH1 : H.push ({ cls := u.2 3, slots := Array.replicate N' .null, vm := .none } : Cell) = H1
  have z1 : H1.size = H.size + 1 := by rw [← hH1, Array.size_push]
  have e1 : H1[H.size]? = some (arrV (u.2 3) N' (fun _ => .null)) := by rw [← hH1, Array.getElem?_push_size, ← arrV_new]
  have o1 : ∀ q : Nat, q < H.size → H1[q]? = H[q]? := fun q hq => by rw [← hH1, Array.getElem?_push, if_neg (Nat.ne_of_lt hq)]
  refine kk H.size H1 ⟨hK, fun k' i' x hx => ?_, hD.push hP rfl (hA _ hS.1), ⟨Nat.le_trans hS.1 (by omega), fun x h1 h2 => (o1 x (Nat.lt_of_lt_of_le h1 hS.1)).trans (hS.2.1 x h1 h2), hS.2.2⟩, hA, hE⟩
  by_cases hk : k' = k ∧ i' = i
  · obtain ⟨rfl, rfl⟩ := hk
    rw [cx_up_s] at hx
    cases hx
    show H1[H.size]? = some (vp_cell _ _)
    rw [vp_cell_q]
    exact e1
  · rw [cx_up_n w _ hk] at hx
    exact (hP k' i' x hx).kept (o1 x.1 ((hP k' i' x hx).lt))
end CXR
end
section
/-! contracts over worlds, and calls -/
abbrev cx_R (fr lo mc ms : Nat) : Room := { frames := fr, cells := mc, slots := ms, locals := lo }
/-- a method that changes nothing: from the world w with the values av it answers r -/
def cx_N (l : Launch) (u : cx_U) (y : MethodName) (cc : ByteArray) (maxL : Nat) (ret : Option FieldType) (fr lo : Nat) (av : List Value) (w : cx_W) (r : Value) : Prop :=
  Met l y (.code y cc maxL ret :: GW) (cx_R fr lo 0 0) (va_Pc av (fun U => cx_V u w U)) (fun _ st oc t => oc = .returned (some r) ∧ t.heap = st.heap) 0 0 (fun _ => False)
/-- what a method that may change its world says of its end -/
def cx_Q (u : cx_U) (w : cx_W) (sz : Nat) (r : Option Value) (G : cx_W → Prop) : Array Value → State → Outcome → State → Prop := fun _ st oc t => oc = .returned r ∧ (∃ w', G w' ∧ cx_V u w' t ∧ cx_D (cx_A w sz) w') ∧ va_F (cx_A w sz) st t
/-- a method that may change the cells of its world and make new ones: the world behind it has G -/
def cx_M (l : Launch) (u : cx_U) (y : MethodName) (cc : ByteArray) (maxL : Nat) (ret : Option FieldType) (fr lo : Nat) (av : List Value) (w : cx_W) (sz : Nat) (r : Option Value) (G : cx_W → Prop) (mc ms : Nat) : Prop :=
  Met l y (.code y cc maxL ret :: GW) (cx_R fr lo mc ms) (va_Pc av (fun U => U.heap.size = sz ∧ cx_V u w U)) (cx_Q u w sz r G) mc ms (cx_A w sz)
theorem cx_N.of {l : Launch} {u : cx_U} {y : MethodName} {cc : ByteArray} {maxL : Nat} {ret : Option FieldType} {fr lo : Nat} {av : List Value} {w : cx_W} {r : Value} (hy : plainName y.cls = true) (hlen : (lg_sl av).length ≤ maxL)
    (body : ∀ (p : Program) (e : Env) (s : State) (m : MethodId) (args : Array Value) (below : List Frame) (meth : Method) (c : Code) (ls : Array Slot) (A : Nat → Prop), CallFix p m c cc maxL s args GW y.cls → meth.sig.returnType = ret → meth.locks = false → cx_B u A w s s.heap [] → lv_has ls maxL (lv_args 0 av) →
      W p l e (cx_R fr lo 0 0) s m args below meth c s.heap [] 0 0 (MQ below (fun _ st oc t => oc = .returned (some r) ∧ t.heap = st.heap) args s 0 0 (fun _ => False)) (F0 m 0 ls [])) : cx_N l u y cc maxL ret fr lo av w r := by
  refine Met.ofW (cc := cc) (maxL := maxL) (ret := ret) hy rfl ?_
  intro p e s m args below meth c s₁ B hml hv
  obtain ⟨rfl, hV⟩ := hv
  have hown : s.vm.findClass y.cls = some m.cls := findClass_of_methodNamed B.named
  have hl := lv_entry av (n := maxL) hlen
  have hts := atoms_spec (ws := .code y cc maxL ret :: GW) B.pre
  rw [lg_entry_eq]
  exact body p e s m _ below meth c _ (fun _ => True) ⟨B.exec, B.bytes, hml, hown, fun x hx => hts x (List.mem_cons_of_mem _ hx)⟩ B.returns B.notSynchronized ⟨hV.1, hV.2.1, hV.2.2.1, va_S.rf, fun _ _ => trivial, hV.2.2.2⟩ hl
theorem cx_M.of {l : Launch} {u : cx_U} {y : MethodName} {cc : ByteArray} {maxL : Nat} {ret : Option FieldType} {fr lo : Nat} {av : List Value} {w : cx_W} {sz : Nat} {r : Option Value} {G : cx_W → Prop} {mc ms : Nat} (hy : plainName y.cls = true) (hlen : (lg_sl av).length ≤ maxL)
    (body : ∀ (p : Program) (e : Env) (s : State) (m : MethodId) (args : Array Value) (below : List Frame) (meth : Method) (c : Code) (ls : Array Slot), s.heap.size = sz → CallFix p m c cc maxL s args GW y.cls → meth.sig.returnType = ret → meth.locks = false → meth.name = y.name → cx_B u (cx_A w sz) w s s.heap [] → lv_has ls maxL (lv_args 0 av) →
      W p l e (cx_R fr lo mc ms) s m args below meth c s.heap [] 0 0 (MQ below (cx_Q u w sz r G) args s mc ms (cx_A w sz)) (F0 m 0 ls [])) : cx_M l u y cc maxL ret fr lo av w sz r G mc ms := by
  refine Met.ofW (cc := cc) (maxL := maxL) (ret := ret) hy rfl ?_
  intro p e s m args below meth c s₁ B hml hv
  obtain ⟨rfl, hsz, hV⟩ := hv
  have hown : s.vm.findClass y.cls = some m.cls := findClass_of_methodNamed B.named
  have hl := lv_entry av (n := maxL) hlen
  have hts := atoms_spec (ws := .code y cc maxL ret :: GW) B.pre
  rw [lg_entry_eq]
  exact body p e s m _ below meth c _ hsz ⟨B.exec, B.bytes, hml, hown, fun x hx => hts x (List.mem_cons_of_mem _ hx)⟩ B.returns B.notSynchronized (name_of_methodNamed B.named B.method).1 ⟨hV.1, hV.2.1, hV.2.2.1.weaken (fun k i x hx _ => Or.inl ⟨k, i, x.2, hx⟩), va_S.rf, fun q h => Or.inr (by rw [← hsz]; exact h), hV.2.2.2⟩ hl
section CXC
variable {p : Program} {l : Launch} {e : Env} {R : Room} {s : State} {m : MethodId} {args : Array Value} {below : List Frame} {meth : Method} {c : Code} {H : Heap} {locs : List Loc} {cells slots : Nat} {Q : State → Prop}
variable {cc : ByteArray} {pc nL : Nat} {ls : Array Slot} {rest : List Value} {own : String} {u : cx_U} {A : Nat → Prop} {w : cx_W}
/-- the ends of a method that changes nothing -/
theorem cx_iretN {v : Int32} {r : Value} (X : CallFix p m c cc nL s args GW own) (hr : meth.sig.returnType = some .int) (hlocks : meth.locks = false) (hv : Value.int v = r) (hdg : decode cc pc = .ok (.ireturn, 1)) : W p l e R s m args below meth c s.heap [] 0 0 (MQ below (fun _ st oc t => oc = .returned (some r) ∧ t.heap = st.heap) args s 0 0 (fun _ => False)) (F0 m pc ls [.int v]) :=
  W.iret X.1 X.2.1 hr (fun t ht _ => ⟨by rw [hv], ht⟩) (fun q h => by cases h) hdg
theorem cx_lretN {v : Int64} {r : Value} (X : CallFix p m c cc nL s args GW own) (hr : meth.sig.returnType = some .long) (hlocks : meth.locks = false) (hv : Value.long v = r) (hdg : decode cc pc = .ok (.lreturn, 1)) : W p l e R s m args below meth c s.heap [] 0 0 (MQ below (fun _ st oc t => oc = .returned (some r) ∧ t.heap = st.heap) args s 0 0 (fun _ => False)) (F0 m pc ls [.long v]) :=
  W.lret X.1 X.2.1 hr (fun t ht _ => ⟨by rw [hv], ht⟩) (fun q h => by cases h) hdg
theorem cx_aretN {v r : Value} {n : String} (X : CallFix p m c cc nL s args GW own) (hr : meth.sig.returnType = some (.object n)) (hlocks : meth.locks = false) (hv : v = r) (hq : v = .null ∨ ∃ a, v = .ref a) (hdg : decode cc pc = .ok (.areturn, 1)) : W p l e R s m args below meth c s.heap [] 0 0 (MQ below (fun _ st oc t => oc = .returned (some r) ∧ t.heap = st.heap) args s 0 0 (fun _ => False)) (F0 m pc ls [v]) :=
  W.aret X.1 X.2.1 hr (Or.inl ⟨n, rfl⟩) hq (fun t ht _ => ⟨by rw [hv], ht⟩) (fun q h => by cases h) hdg
theorem cx_zretN {a : Int} {r : Value} (X : CallFix p m c cc nL s args GW own) (hr : meth.sig.returnType = some .boolean) (hlocks : meth.locks = false) (h1 : 0 ≤ a) (h2 : a ≤ 1) (hv : Value.int (jI a) = r) (hdg : decode cc pc = .ok (.ireturn, 1)) : W p l e R s m args below meth c s.heap [] 0 0 (MQ below (fun _ st oc t => oc = .returned (some r) ∧ t.heap = st.heap) args s 0 0 (fun _ => False)) (F0 m pc ls [.int (jI a)]) :=
  W.zret X.1 X.2.1 hr (by rcases (show a = 0 ∨ a = 1 by omega) with rfl | rfl <;> decide +kernel) (fun t ht _ => ⟨by rw [hv], ht⟩) (fun q h => by cases h) hdg
/-- the ends of a method that may change its world -/
theorem cx_out {w0 w1 : cx_W} {sz : Nat} {G : cx_W → Prop} (hsz : s.heap.size = sz) (B : cx_B u (cx_A w0 sz) w1 s H locs) (hG : G w1) (t : State) (ht : t.heap = H) (hW : s.WarmedH t.vm) : (∃ w', G w' ∧ cx_V u w' t ∧ cx_D (cx_A w0 sz) w') ∧ va_F (cx_A w0 sz) s t :=
  ⟨⟨w1, hG, ⟨va_K.moved hW.alike B.1, by rw [ht]; exact B.2.1, B.2.2.1.weaken (fun _ _ _ _ _ => trivial), B.2.2.2.2.2.warm hW⟩, B.2.2.1⟩, B.2.2.2.1.F ht⟩
theorem cx_iretM {v : Int32} {r : Option Value} {w0 w1 : cx_W} {sz mc ms : Nat} {G : cx_W → Prop} (X : CallFix p m c cc nL s args GW own) (B : cx_B u (cx_A w0 sz) w1 s H locs) (hsz : s.heap.size = sz) (hr : meth.sig.returnType = some .int) (hlocks : meth.locks = false) (hc : cells ≤ mc) (hs : slots ≤ ms) (hv : some (Value.int v) = r) (hG : G w1) (hdg : decode cc pc = .ok (.ireturn, 1)) : W p l e R s m args below meth c H locs cells slots (MQ below (cx_Q u w0 sz r G) args s mc ms (cx_A w0 sz)) (F0 m pc ls [.int v]) :=
  W.widen hc hs (W.iret X.1 X.2.1 hr (fun t ht hW => ⟨by rw [hv], cx_out hsz B hG t ht hW⟩) B.2.2.2.1.2.2 hdg)
theorem cx_lretM {v : Int64} {r : Option Value} {w0 w1 : cx_W} {sz mc ms : Nat} {G : cx_W → Prop} (X : CallFix p m c cc nL s args GW own) (B : cx_B u (cx_A w0 sz) w1 s H locs) (hsz : s.heap.size = sz) (hr : meth.sig.returnType = some .long) (hlocks : meth.locks = false) (hc : cells ≤ mc) (hs : slots ≤ ms) (hv : some (Value.long v) = r) (hG : G w1) (hdg : decode cc pc = .ok (.lreturn, 1)) : W p l e R s m args below meth c H locs cells slots (MQ below (cx_Q u w0 sz r G) args s mc ms (cx_A w0 sz)) (F0 m pc ls [.long v]) :=
  W.widen hc hs (W.lret X.1 X.2.1 hr (fun t ht hW => ⟨by rw [hv], cx_out hsz B hG t ht hW⟩) B.2.2.2.1.2.2 hdg)
theorem cx_zretM {a : Int} {r : Option Value} {w0 w1 : cx_W} {sz mc ms : Nat} {G : cx_W → Prop} (X : CallFix p m c cc nL s args GW own) (B : cx_B u (cx_A w0 sz) w1 s H locs) (hsz : s.heap.size = sz) (hr : meth.sig.returnType = some .boolean) (hlocks : meth.locks = false) (hc : cells ≤ mc) (hs : slots ≤ ms) (h1 : 0 ≤ a) (h2 : a ≤ 1) (hv : some (Value.int (jI a)) = r) (hG : G w1) (hdg : decode cc pc = .ok (.ireturn, 1)) : W p l e R s m args below meth c H locs cells slots (MQ below (cx_Q u w0 sz r G) args s mc ms (cx_A w0 sz)) (F0 m pc ls [.int (jI a)]) :=
  W.widen hc hs (W.zret X.1 X.2.1 hr (by rcases (show a = 0 ∨ a = 1 by omega) with rfl | rfl <;> decide +kernel) (fun t ht hW => ⟨by rw [hv], cx_out hsz B hG t ht hW⟩) B.2.2.2.1.2.2 hdg)
theorem cx_vretM {w0 w1 : cx_W} {sz mc ms : Nat} {G : cx_W → Prop} (X : CallFix p m c cc nL s args GW own) (B : cx_B u (cx_A w0 sz) w1 s H locs) (hsz : s.heap.size = sz) (hr : meth.sig.returnType = none) (hlocks : meth.locks = false) (hc : cells ≤ mc) (hs : slots ≤ ms) (hG : G w1) (hdg : decode cc pc = .ok (.return_, 1)) : W p l e R s m args below meth c H locs cells slots (MQ below (cx_Q u w0 sz none G) args s mc ms (cx_A w0 sz)) (F0 m pc ls []) :=
  W.widen hc hs (W.vret X.1 X.2.1 hr (fun t ht hW => ⟨rfl, cx_out hsz B hG t ht hW⟩) B.2.2.2.1.2.2 hdg)
/-- behind a call -/
theorem cx_goN {st0 : List Value} {r : Value} (hr : va_Run p l e R s m args below meth c H locs cells slots 0 0 (F0 m pc ls st0) rest (fun st oc t => oc = .returned (some r) ∧ t.heap = st.heap) (fun _ => False))
    (kk : W p l e R s m args below meth c H locs cells slots Q (F0 m (pc + 3) ls (r :: rest))) : W p l e R s m args below meth c H locs cells slots Q (F0 m pc ls st0) := by
  intro T hT X
  obtain ⟨v, st₀, t, T', L, h0, X', hL, e1, e2, ⟨hv, hh⟩, st⟩ := hr T hT X
  cases hv
  have hL0 : L = [] := by
    cases L with
    | nil => rfl
    | cons q L => exact absurd (hL q List.mem_cons_self) (fun h => h)
  subst hL0
  rw [List.append_nil] at X'
  obtain ⟨t2, a1, b1⟩ := kk T' (by rw [e1, hh, h0]) X'
  exact ⟨t2, st t2 a1, b1⟩
theorem cx_goM {wc : cx_W} {st0 : List Value} {r : Option Value} {G : cx_W → Prop} {mc ms : Nat} (B : cx_B u A w s H locs) (hsub : ∀ (k i : Nat) (x : Nat × va_E), wc k i = some x → w k i = some x) (hr : va_Run p l e R s m args below meth c H locs cells slots mc ms (F0 m pc ls st0) rest (cx_Q u wc H.size r G #[]) (cx_A wc H.size))
    (kk : ∀ (H1 : Heap) (locs1 : List Loc) (w' : cx_W), G w' → H.size ≤ H1.size → (∀ q : Nat, q < H.size → ¬ cx_A wc H.size q → H1[q]? = H[q]?) → cx_P u.1 vw_cl w' H1 → cx_D (cx_A wc H.size) w' → va_S A s.heap H1 locs1 → (∀ q, cx_A wc H.size q → A q) → W p l e R s m args below meth c H1 locs1 (cells + mc) (slots + ms) Q (F0 m (pc + 3) ls (r.toList ++ rest))) : W p l e R s m args below meth c H locs cells slots Q (F0 m pc ls st0) := by
  intro T hT X
  obtain ⟨v, st₀, t, T', L, h0, X', hL, e1, e2, ⟨hv, ⟨w', hG, hV, hD'⟩, hz, hk⟩, st⟩ := hr T hT X
  cases hv
  obtain ⟨hK, hP, hD, hS, hA, hE⟩ := B
  have hF : ∀ q, cx_A wc H.size q → A q := by
    intro q h
    rcases h with ⟨k, i, e, h⟩ | h
    · exact hD.2 k i (q, e) (hsub k i _ h)
    · exact hA q (Nat.le_trans hS.1 h)
  rw [h0] at hz hk
  obtain ⟨t2, a1, b1⟩ := kk T'.heap (locs ++ L) w' hG (by rw [e1]; exact hz) (fun q h1 h2 => by rw [e1]; exact hk q h1 h2) (by rw [e1]; exact hV.2.1) hD'
    ⟨Nat.le_trans hS.1 (by rw [e1]; exact hz), fun q h1 h2 => by rw [e1, hk q (Nat.lt_of_lt_of_le h1 hS.1) (fun z => h2 (hF q z))]; exact hS.2.1 q h1 h2, fun q hq => by
      rcases List.mem_append.mp hq with h | h
      · exact hS.2.2 q h
      · exact hF _ (hL q h)⟩ hF T' rfl X'
  exact ⟨t2, st t2 a1, b1⟩
/-- the world that came back is the caller's -/
theorem cx_goW {st0 : List Value} {r : Option Value} {G : cx_W → Prop} {mc ms : Nat} (B : cx_B u A w s H locs) (hr : va_Run p l e R s m args below meth c H locs cells slots mc ms (F0 m pc ls st0) rest (cx_Q u w H.size r G #[]) (cx_A w H.size))
    (kk : ∀ (H : Heap) (locs : List Loc) (w' : cx_W), G w' → cx_B u A w' s H locs → W p l e R s m args below meth c H locs (cells + mc) (slots + ms) Q (F0 m (pc + 3) ls (r.toList ++ rest))) : W p l e R s m args below meth c H locs cells slots Q (F0 m pc ls st0) :=
  cx_goM B (fun _ _ _ h => h) hr (fun H1 locs1 w' hG _ _ hP hD hS hF => kk H1 locs1 w' hG ⟨B.1, hP, hD.weaken (fun _ _ _ _ h => hF _ h), hS, B.2.2.2.2⟩)
theorem cx_blN {av : List Value} : FrameBlind (va_Pc av (fun U => cx_V u w U)) := fun _ _ g mk q => ⟨q.1, q.2.calling g mk _⟩
theorem cx_blM {av : List Value} {sz : Nat} : FrameBlind (va_Pc av (fun U => U.heap.size = sz ∧ cx_V u w U)) := fun _ _ g mk q => ⟨q.1, q.2.1, q.2.2.calling g mk _⟩
theorem cx_atV (B : cx_B u A w s H locs) {wc : cx_W} (hsub : ∀ (k i : Nat) (x : Nat × va_E), wc k i = some x → w k i = some x) (U : State) (hU : U.heap = H) (hW : s.WarmedH U.vm) : cx_V u wc U :=
  ⟨va_K.moved hW.alike B.1, by rw [hU]; exact fun k i x hx => B.2.1 k i x (hsub k i x hx), ⟨fun k i k' i' x y hx hy => B.2.2.1.1 k i k' i' x y (hsub _ _ _ hx) (hsub _ _ _ hy), fun _ _ _ _ => trivial⟩, B.2.2.2.2.2.warm hW⟩
theorem cx_rcv (B : cx_B u A w s H locs) {k i ci a : Nat} {q : vw_C} {fs : List Value} (hc : vw_cl[ci]? = some q) (he : w k i = some (a, .inr (ci, fs))) : ∃ cell : Cell, H[a]? = some cell ∧ cell.vm.isStatics = false ∧ s.vm.findClass q.1 = some cell.cls := va_recv B.1 (B.2.1.one he) hc (q0 := 0) rfl
variable {y : MethodName} {bytes : ByteArray} {maxL n index fr lo mc ms : Nat} {ret : Option FieldType} {b : Nat} {As : List Value} {wc : cx_W}
theorem cx_cb {rm : Room} (X : CallFix p m c cc nL s args GW own) (hcd : Cond.code y bytes maxL ret ∈ GW) (hi : Cond.initialized y.cls ∈ GW) (hd : cx_hd y n) (hl : Cond.methodLink own index y ∈ GW) (hR : rm.frames + 1 ≤ R.frames ∧ 8 + (maxL + 11) + rm.locals ≤ R.locals) : CallB R s args own index y bytes maxL ret (.code y bytes maxL ret :: GW) rm rm.cells rm.slots n :=
  callB_of n X.2.2.2.2 (fun x hx => by
    rcases List.mem_cons.mp hx with h | h
    · rw [h]; exact GW_good _ hcd
    · exact GW_good _ h) rfl rfl rfl (X.2.2.2.2 _ hi) (X.2.2.2.2 _ hl) hd hR
/-- a call of a method of an object that changes nothing -/
theorem cx_cVN {r : Value} {k i ci : Nat} {q : vw_C} {fs : List Value} (X : CallFix p m c cc nL s args GW own) (B : cx_B u A w s H locs) (K : cx_KV GW y bytes maxL ret n) (hl : Cond.methodLink own index y ∈ GW) (hM : cx_N l u y bytes maxL ret fr lo (.ref b :: As) wc r) (hsub : ∀ (k i : Nat) (x : Nat × va_E), wc k i = some x → w k i = some x)
    (he : w k i = some (b, .inr (ci, fs))) (hc : vw_cl[ci]? = some q) (hq : y.cls = q.1) (hR : fr + 1 ≤ R.frames ∧ 8 + (maxL + 11) + lo ≤ R.locals) (hf : cells ≤ R.cells ∧ slots ≤ R.slots) (hn : As.length = n) (hls : ls.size = nL) (hst : (rest.map fun v => v.category).sum ≤ 8) (hdg : decode cc pc = .ok (.invokevirtual index, 3))
    {st0 : List Value} (hs0 : st0 = As.reverse ++ .ref b :: rest) (kk : W p l e R s m args below meth c H locs cells slots Q (F0 m (pc + 3) ls (r :: rest))) : W p l e R s m args below meth c H locs cells slots Q (F0 m pc ls st0) := by
  refine cx_goN (rest := rest) (r := r) ?_ kk
  exact va_runV (C := y.cls) X hM ⟨cx_cb (rm := cx_R fr lo 0 0) X K.2.2.2.1 K.2.2.1 K.2.2.2.2 hl hR, X.2.2.2.2 _ K.1, X.2.2.2.2 _ K.2.1⟩ ⟨cx_blN, by rw [hq]; exact cx_rcv B hc he, fun U hU hW => ⟨rfl, cx_atV B hsub U hU hW⟩⟩ rfl hn hls hs0 (lv_room hst) hdg hf
theorem cx_cVM {r : Option Value} {G : cx_W → Prop} {k i ci : Nat} {q : vw_C} {fs : List Value} (X : CallFix p m c cc nL s args GW own) (B : cx_B u A w s H locs) (K : cx_KV GW y bytes maxL ret n) (hl : Cond.methodLink own index y ∈ GW) (hM : cx_M l u y bytes maxL ret fr lo (.ref b :: As) w H.size r G mc ms)
    (he : w k i = some (b, .inr (ci, fs))) (hc : vw_cl[ci]? = some q) (hq : y.cls = q.1) (hR : fr + 1 ≤ R.frames ∧ 8 + (maxL + 11) + lo ≤ R.locals) (hf : cells + mc ≤ R.cells ∧ slots + ms ≤ R.slots) (hn : As.length = n) (hls : ls.size = nL) (hst : (rest.map fun v => v.category).sum ≤ 8) (hdg : decode cc pc = .ok (.invokevirtual index, 3))
    {st0 : List Value} (hs0 : st0 = As.reverse ++ .ref b :: rest) (kk : ∀ (H : Heap) (locs : List Loc) (w' : cx_W), G w' → cx_B u A w' s H locs → W p l e R s m args below meth c H locs (cells + mc) (slots + ms) Q (F0 m (pc + 3) ls (r.toList ++ rest))) : W p l e R s m args below meth c H locs cells slots Q (F0 m pc ls st0) := by
  refine cx_goW (rest := rest) (r := r) (G := G) B ?_ kk
  exact va_runV (C := y.cls) X hM ⟨cx_cb (rm := cx_R fr lo mc ms) X K.2.2.2.1 K.2.2.1 K.2.2.2.2 hl hR, X.2.2.2.2 _ K.1, X.2.2.2.2 _ K.2.1⟩ ⟨cx_blM, by rw [hq]; exact cx_rcv B hc he, fun U hU hW => ⟨rfl, by rw [hU], cx_atV B (fun _ _ _ h => h) U hU hW⟩⟩ rfl hn hls hs0 (lv_room hst) hdg hf
/-- a static method that changes nothing -/
theorem cx_cSN {r : Value} (X : CallFix p m c cc nL s args GW own) (B : cx_B u A w s H locs) (K : cx_KS GW y bytes maxL ret n) (hl : Cond.methodLink own index y ∈ GW) (hM : cx_N l u y bytes maxL ret fr lo As wc r) (hsub : ∀ (k i : Nat) (x : Nat × va_E), wc k i = some x → w k i = some x)
    (hR : fr + 1 ≤ R.frames ∧ 8 + (maxL + 11) + lo ≤ R.locals) (hf : cells ≤ R.cells ∧ slots ≤ R.slots) (hn : As.length = n) (hls : ls.size = nL) (hst : (rest.map fun v => v.category).sum ≤ 8) (hdg : decode cc pc = .ok (.invokestatic index, 3))
    {st0 : List Value} (hs0 : st0 = As.reverse ++ rest) (kk : W p l e R s m args below meth c H locs cells slots Q (F0 m (pc + 3) ls (r :: rest))) : W p l e R s m args below meth c H locs cells slots Q (F0 m pc ls st0) := by
  refine cx_goN (rest := rest) (r := r) ?_ kk
  exact va_runS X hM ⟨cx_cb (rm := cx_R fr lo 0 0) X K.2.2.1 K.2.1 K.2.2.2 hl hR, X.2.2.2.2 _ K.1⟩ ⟨cx_blN, fun U hU hW => ⟨rfl, cx_atV B hsub U hU hW⟩⟩ rfl hn hls hs0 (lv_room hst) hdg hf
/-- a nest mate's own static method that changes nothing -/
theorem cx_cSX {r : Value} {host : String} (X : CallFix p m c cc nL s args GW own) (B : cx_B u A w s H locs) (K : cx_KS GW y bytes maxL ret n) (hl : ∀ U : State, cx_E U → va_Nw (.methodLinkNest own index y host) U) (hM : cx_N l u y bytes maxL ret fr lo As wc r) (hsub : ∀ (k i : Nat) (x : Nat × va_E), wc k i = some x → w k i = some x)
    (hR : fr + 1 ≤ R.frames ∧ 8 + (maxL + 11) + lo ≤ R.locals) (hf : cells ≤ R.cells ∧ slots ≤ R.slots) (hn : As.length = n) (hls : ls.size = nL) (hst : (rest.map fun v => v.category).sum ≤ 8) (hdg : decode cc pc = .ok (.invokestatic index, 3))
    {st0 : List Value} (hs0 : st0 = As.reverse ++ rest) (kk : W p l e R s m args below meth c H locs cells slots Q (F0 m (pc + 3) ls (r :: rest))) : W p l e R s m args below meth c H locs cells slots Q (F0 m pc ls st0) := by
  refine cx_goN (rest := rest) (r := r) ?_ kk
  exact va_runSN X hM ⟨va_cnB (rm := cx_R fr lo 0 0) n X.2.2.2.2 (fun x hx => by
    rcases List.mem_cons.mp hx with h | h
    · rw [h]; exact GW_good _ K.2.2.1
    · exact GW_good _ h) rfl rfl rfl (hl s B.2.2.2.2.2) (X.2.2.2.2 _ K.2.1) K.2.2.2 hR, X.2.2.2.2 _ K.1, trivial⟩ ⟨cx_blN, fun U hU hW => ⟨rfl, cx_atV B hsub U hU hW⟩⟩ rfl hn hls hs0 (lv_room hst) hdg hf
/-- a constructor -/
theorem cx_cI {G : cx_W → Prop} (X : CallFix p m c cc nL s args GW own) (B : cx_B u A w s H locs) (K : cx_KI GW y bytes maxL n) (hl : Cond.methodLink own index y ∈ GW) (hM : cx_M l u y bytes maxL none fr lo (.ref b :: As) w H.size none G mc ms)
    (hR : fr + 1 ≤ R.frames ∧ 8 + (maxL + 11) + lo ≤ R.locals) (hf : cells + mc ≤ R.cells ∧ slots + ms ≤ R.slots) (hn : As.length = n) (hls : ls.size = nL) (hst : (rest.map fun v => v.category).sum ≤ 8) (hdg : decode cc pc = .ok (.invokespecial index, 3))
    {st0 : List Value} (hs0 : st0 = As.reverse ++ .ref b :: rest) (kk : ∀ (H : Heap) (locs : List Loc) (w' : cx_W), G w' → cx_B u A w' s H locs → W p l e R s m args below meth c H locs (cells + mc) (slots + ms) Q (F0 m (pc + 3) ls rest)) : W p l e R s m args below meth c H locs cells slots Q (F0 m pc ls st0) := by
  refine cx_goW (rest := rest) (r := none) (G := G) B ?_ kk
  exact va_runI X hM ⟨cx_cb (rm := cx_R fr lo mc ms) X K.2.2.2.1 K.2.2.1 K.2.2.2.2 hl hR, K.1, X.2.2.2.2 _ K.2.1⟩ ⟨cx_blM, fun U hU hW => ⟨rfl, by rw [hU], cx_atV B (fun _ _ _ h => h) U hU hW⟩⟩ rfl hn hls hs0 (lv_room hst) hdg hf
theorem cx_obj {b : Nat} (X : CallFix p m c cc nL s args GW own) (hl : Cond.methodLink own index objectInit ∈ GW) (hls : ls.size = nL) (hR : 1 ≤ R.frames ∧ (rest.map fun v => v.category).sum + 12 ≤ R.locals) (hdg : decode cc pc = .ok (.invokespecial index, 3)) (kk : W p l e R s m args below meth c H locs cells slots Q (F0 m (pc + 3) ls rest)) : W p l e R s m args below meth c H locs cells slots Q (F0 m pc ls (.ref b :: rest)) :=
  W.objInit X.1 X.2.1 X.2.2.2.1 (X.2.2.2.2 _ hl) (X.2.2.2.2 _ gj_objectInit) (X.2.2.2.2 _ gd_objectInit) rfl (hls.trans X.2.2.1.symm) rfl hdg hR.1 (by have := hR.2; show 2 * 0 + _ + 12 ≤ _; omega) kk
theorem cx_max {a b : Int} (X : CallFix p m c cc nL s args GW own) (hl : Cond.methodLink own index Lib.MathLoose.max_long.x ∈ GW) (h1 : -9223372036854775808 ≤ a) (h2 : a ≤ 9223372036854775807) (h3 : -9223372036854775808 ≤ b) (h4 : b ≤ 9223372036854775807) (hls : ls.size = nL) (hR : 1 ≤ R.frames ∧ (rest.map fun v => v.category).sum + 15 ≤ R.locals) (hf : cells ≤ R.cells ∧ slots ≤ R.slots) (hdg : decode cc pc = .ok (.invokestatic index, 3)) (kk : W p l e R s m args below meth c H locs cells slots Q (F0 m (pc + 3) ls (.long (jL (if b < a then a else b)) :: rest))) : W p l e R s m args below meth c H locs cells slots Q (F0 m pc ls (.long (jL b) :: .long (jL a) :: rest)) := by
  refine va_mmax_long X.1 X.2.1 (X.2.2.1.trans hls.symm) X.2.2.2.1 (X.2.2.2.2 _ hl) (X.2.2.2.2 _ gt_max_long) (X.2.2.2.2 _ gi_Math) (X.2.2.2.2 _ gd_max_long) hR.1 hR.2 hf.1 hf.2 hdg ?_
  by_cases h : b < a
  · rw [if_pos ((jL_lt h3 h4 h1 h2).mpr h)]
    rw [if_pos h] at kk
    exact kk
  · rw [if_neg (fun q => h ((jL_lt h3 h4 h1 h2).mp q))]
    rw [if_neg h] at kk
    exact kk
theorem cx_min {a b : Int} (X : CallFix p m c cc nL s args GW own) (hl : Cond.methodLink own index Lib.MathLoose.min_long.x ∈ GW) (h1 : -9223372036854775808 ≤ a) (h2 : a ≤ 9223372036854775807) (h3 : -9223372036854775808 ≤ b) (h4 : b ≤ 9223372036854775807) (hls : ls.size = nL) (hR : 1 ≤ R.frames ∧ (rest.map fun v => v.category).sum + 15 ≤ R.locals) (hf : cells ≤ R.cells ∧ slots ≤ R.slots) (hdg : decode cc pc = .ok (.invokestatic index, 3)) (kk : W p l e R s m args below meth c H locs cells slots Q (F0 m (pc + 3) ls (.long (jL (if b < a then b else a)) :: rest))) : W p l e R s m args below meth c H locs cells slots Q (F0 m pc ls (.long (jL b) :: .long (jL a) :: rest)) := by
  refine va_mmin_long X.1 X.2.1 (X.2.2.1.trans hls.symm) X.2.2.2.1 (X.2.2.2.2 _ hl) (X.2.2.2.2 _ gt_min_long) (X.2.2.2.2 _ gi_Math) (X.2.2.2.2 _ gd_min_long) hR.1 hR.2 hf.1 hf.2 hdg ?_
  by_cases h : b < a
  · rw [if_pos ((jL_lt h3 h4 h1 h2).mpr h)]
    rw [if_pos h] at kk
    exact kk
  · rw [if_neg (fun q => h ((jL_lt h3 h4 h1 h2).mp q))]
    rw [if_neg h] at kk
    exact kk
end CXC
end
section
section CXD
variable {p : Program} {l : Launch} {e : Env} {R : Room} {s : State} {m : MethodId} {args : Array Value} {below : List Frame} {meth : Method} {c : Code} {H : Heap} {locs : List Loc} {cells slots : Nat} {Q : State → Prop}
variable {cc : ByteArray} {pc nL : Nat} {ls : Array Slot} {rest : List Value} {own : String}
/-- longs compared as the machine has them: equal or not -/
theorem cx_lcmpR_ne (X : CallFix p m c cc nL s args GW own) {a b : Int64} {off : Int} {tgt : Nat} (hdl : decode cc pc = .ok (.lcmp, 1)) (hdg : decode cc (pc + 1) = .ok (.ifCond .ne off, 3)) (ht : ((pc + 1 : Nat) : Int) + off = (tgt : Int)) (kt : ¬ a = b → W p l e R s m args below meth c H locs cells slots Q (F0 m tgt ls rest)) (kf : a = b → W p l e R s m args below meth c H locs cells slots Q (F0 m (pc + 1 + 3) ls rest)) : W p l e R s m args below meth c H locs cells slots Q (F0 m pc ls (.long b :: .long a :: rest)) := W.lcmp X.1 X.2.1 hdl (lv_if_ne X.1 X.2.1 hdg ht (fun h => kt (fun q => h ((lg_cmp_eq _ _).mpr q))) (fun h => kf ((lg_cmp_eq _ _).mp h)))
end CXD
theorem cs_nn (i : Nat) : ((i : Int)).toNat = i := rfl
end
section
/-! THE STATE: S f i j. f: 0 stocks, 1 holders, 2 landings, 3 and 4 the penalty, 5 a holder's owner, 6 its pool, 7 8 9 10 a landing's stock, holder, grams, day told, 11 parts (of owner i in owner j), 12 allowed, 13 aside, 14 parted, 15 followed, 16 cap, 17 kept, 18 thrown, 19 what came beside the whole (the reference's), 20 weights, 21 shares, 22 what shares should come to (the class's) -/
abbrev cs_S : Type := Nat → Nat → Nat → Int
def cs_u (S : cs_S) (f i j : Nat) (v : Int) : cs_S := fun f' i' j' => if f' = f ∧ i' = i ∧ j' = j then v else S f' i' j'
def cs_sum (f : Nat → Int) : Nat → Int
  | 0 => 0
  | n + 1 => cs_sum f n + f n
theorem cs_sum_s (f : Nat → Int) (n : Nat) : cs_sum f (n + 1) = cs_sum f n + f n := rfl
theorem cs_sum_c {f g : Nat → Int} {n : Nat} (h : ∀ k, k < n → f k = g k) : cs_sum f n = cs_sum g n := by
  induction n with
  | zero => rfl
  | succ n ih => rw [cs_sum_s, cs_sum_s, ih (fun k hk => h k (by omega)), h n (by omega)]
theorem cs_sum_b {f : Nat → Int} {a b : Int} {n : Nat} (h : ∀ k, k < n → a ≤ f k ∧ f k ≤ b) : a * n ≤ cs_sum f n ∧ cs_sum f n ≤ b * n := by
  induction n with
  | zero => simp [cs_sum]
  | succ n ih =>
    have h1 := ih (fun k hk => h k (by omega))
    have h2 := h n (by omega)
    rw [cs_sum_s, Int.natCast_succ, Int.mul_add, Int.mul_add]
    omega
/-- the cells of the class -/
def wC (u : cx_U) (ad : Nat → Nat → Nat) (S : cs_S) (sc : Nat → Nat → Int) : cx_W := fun k i => match k with
  | 0 => if i = 0 then some (ad 0 0, .inr (3, [.ref (ad 1 0), .int (jI (S 0 0 0)), .ref (ad 2 0), .ref (ad 3 0), .int (jI (S 1 0 0)), .ref (ad 4 0), .ref (ad 9 0), .int (jI (S 3 0 0)), .int (jI (S 4 0 0))])) else none
  | 1 => if i = 0 then some (ad 1 0, .inl (u.2 3, 8, .inr (.inr (.inr (.inr (fun x => if (x : Int) < S 0 0 0 then some (ad 14 x) else none)))))) else none
  | 2 => if i = 0 then some (ad 2 0, .inl (u.2 0, 12, .inl (fun x => jI (S 5 x 0)))) else none
  | 3 => if i = 0 then some (ad 3 0, .inl (u.2 0, 12, .inl (fun x => jI (S 6 x 0)))) else none
  | 4 => if i = 0 then some (ad 4 0, .inr (0, [.ref (ad 5 0), .ref (ad 6 0), .ref (ad 7 0), .ref (ad 8 0), .int (jI (S 2 0 0))])) else none
  | 5 => if i = 0 then some (ad 5 0, .inl (u.2 0, 200, .inl (fun x => jI (S 7 x 0)))) else none
  | 6 => if i = 0 then some (ad 6 0, .inl (u.2 0, 200, .inl (fun x => jI (S 8 x 0)))) else none
  | 7 => if i = 0 then some (ad 7 0, .inl (u.2 1, 200, .inr (.inl (fun x => jL (S 9 x 0))))) else none
  | 8 => if i = 0 then some (ad 8 0, .inl (u.2 0, 200, .inl (fun x => jI (S 10 x 0)))) else none
  | 9 => if i = 0 then some (ad 9 0, .inr (1, [.ref (ad 10 0), .ref (ad 11 0), .ref (ad 12 0), .ref (ad 13 0)])) else none
  | 10 => if i = 0 then some (ad 10 0, .inl (u.2 0, 100, .inl (fun x => jI (S 11 (x / 10) (x % 10))))) else none
  | 11 => if i = 0 then some (ad 11 0, .inl (u.2 1, 10, .inr (.inl (fun x => jL (sc 0 x))))) else none
  | 12 => if i = 0 then some (ad 12 0, .inl (u.2 1, 10, .inr (.inl (fun x => jL (sc 1 x))))) else none
  | 13 => if i = 0 then some (ad 13 0, .inl (u.2 1, 10, .inr (.inl (fun x => jL (sc 2 x))))) else none
  | 14 => if (i : Int) < S 0 0 0 then some (ad 14 i, .inr (2, [.int (jI (i : Int)), .long (jL (S 12 i 0)), .ref (ad 15 i), .ref (ad 16 i), .long (jL (S 13 i 0)), .int (jI (S 14 i 0)), .int (jI (S 15 i 0)), .int (jI (S 16 i 0)), .long (jL (S 17 i 0)), .long (jL (S 18 i 0)), .long (jL (S 22 i 0))])) else none
  | 15 => if (i : Int) < S 0 0 0 then some (ad 15 i, .inl (u.2 1, 12, .inr (.inl (fun x => jL (S 20 i x))))) else none
  | 16 => if (i : Int) < S 0 0 0 then some (ad 16 i, .inl (u.2 1, 12, .inr (.inl (fun x => jL (S 21 i x))))) else none
  | _ => none
theorem wC_0 (u : cx_U) (ad : Nat → Nat → Nat) (S : cs_S) (sc : Nat → Nat → Int) : wC u ad S sc 0 0 = some (ad 0 0, .inr (3, [.ref (ad 1 0), .int (jI (S 0 0 0)), .ref (ad 2 0), .ref (ad 3 0), .int (jI (S 1 0 0)), .ref (ad 4 0), .ref (ad 9 0), .int (jI (S 3 0 0)), .int (jI (S 4 0 0))])) := rfl
theorem wC_1 (u : cx_U) (ad : Nat → Nat → Nat) (S : cs_S) (sc : Nat → Nat → Int) : wC u ad S sc 1 0 = some (ad 1 0, .inl (u.2 3, 8, .inr (.inr (.inr (.inr (fun x => if (x : Int) < S 0 0 0 then some (ad 14 x) else none)))))) := rfl
theorem wC_2 (u : cx_U) (ad : Nat → Nat → Nat) (S : cs_S) (sc : Nat → Nat → Int) : wC u ad S sc 2 0 = some (ad 2 0, .inl (u.2 0, 12, .inl (fun x => jI (S 5 x 0)))) := rfl
theorem wC_3 (u : cx_U) (ad : Nat → Nat → Nat) (S : cs_S) (sc : Nat → Nat → Int) : wC u ad S sc 3 0 = some (ad 3 0, .inl (u.2 0, 12, .inl (fun x => jI (S 6 x 0)))) := rfl
theorem wC_4 (u : cx_U) (ad : Nat → Nat → Nat) (S : cs_S) (sc : Nat → Nat → Int) : wC u ad S sc 4 0 = some (ad 4 0, .inr (0, [.ref (ad 5 0), .ref (ad 6 0), .ref (ad 7 0), .ref (ad 8 0), .int (jI (S 2 0 0))])) := rfl
theorem wC_5 (u : cx_U) (ad : Nat → Nat → Nat) (S : cs_S) (sc : Nat → Nat → Int) : wC u ad S sc 5 0 = some (ad 5 0, .inl (u.2 0, 200, .inl (fun x => jI (S 7 x 0)))) := rfl
theorem wC_6 (u : cx_U) (ad : Nat → Nat → Nat) (S : cs_S) (sc : Nat → Nat → Int) : wC u ad S sc 6 0 = some (ad 6 0, .inl (u.2 0, 200, .inl (fun x => jI (S 8 x 0)))) := rfl
theorem wC_7 (u : cx_U) (ad : Nat → Nat → Nat) (S : cs_S) (sc : Nat → Nat → Int) : wC u ad S sc 7 0 = some (ad 7 0, .inl (u.2 1, 200, .inr (.inl (fun x => jL (S 9 x 0))))) := rfl
theorem wC_8 (u : cx_U) (ad : Nat → Nat → Nat) (S : cs_S) (sc : Nat → Nat → Int) : wC u ad S sc 8 0 = some (ad 8 0, .inl (u.2 0, 200, .inl (fun x => jI (S 10 x 0)))) := rfl
theorem wC_9 (u : cx_U) (ad : Nat → Nat → Nat) (S : cs_S) (sc : Nat → Nat → Int) : wC u ad S sc 9 0 = some (ad 9 0, .inr (1, [.ref (ad 10 0), .ref (ad 11 0), .ref (ad 12 0), .ref (ad 13 0)])) := rfl
theorem wC_10 (u : cx_U) (ad : Nat → Nat → Nat) (S : cs_S) (sc : Nat → Nat → Int) : wC u ad S sc 10 0 = some (ad 10 0, .inl (u.2 0, 100, .inl (fun x => jI (S 11 (x / 10) (x % 10))))) := rfl
theorem wC_11 (u : cx_U) (ad : Nat → Nat → Nat) (S : cs_S) (sc : Nat → Nat → Int) : wC u ad S sc 11 0 = some (ad 11 0, .inl (u.2 1, 10, .inr (.inl (fun x => jL (sc 0 x))))) := rfl
theorem wC_12 (u : cx_U) (ad : Nat → Nat → Nat) (S : cs_S) (sc : Nat → Nat → Int) : wC u ad S sc 12 0 = some (ad 12 0, .inl (u.2 1, 10, .inr (.inl (fun x => jL (sc 1 x))))) := rfl
theorem wC_13 (u : cx_U) (ad : Nat → Nat → Nat) (S : cs_S) (sc : Nat → Nat → Int) : wC u ad S sc 13 0 = some (ad 13 0, .inl (u.2 1, 10, .inr (.inl (fun x => jL (sc 2 x))))) := rfl
theorem wC_14 (u : cx_U) (ad : Nat → Nat → Nat) (S : cs_S) (sc : Nat → Nat → Int) {i : Nat} (h : (i : Int) < S 0 0 0) : wC u ad S sc 14 i = some (ad 14 i, .inr (2, [.int (jI (i : Int)), .long (jL (S 12 i 0)), .ref (ad 15 i), .ref (ad 16 i), .long (jL (S 13 i 0)), .int (jI (S 14 i 0)), .int (jI (S 15 i 0)), .int (jI (S 16 i 0)), .long (jL (S 17 i 0)), .long (jL (S 18 i 0)), .long (jL (S 22 i 0))])) := if_pos h
theorem wC_15 (u : cx_U) (ad : Nat → Nat → Nat) (S : cs_S) (sc : Nat → Nat → Int) {i : Nat} (h : (i : Int) < S 0 0 0) : wC u ad S sc 15 i = some (ad 15 i, .inl (u.2 1, 12, .inr (.inl (fun x => jL (S 20 i x))))) := if_pos h
theorem wC_16 (u : cx_U) (ad : Nat → Nat → Nat) (S : cs_S) (sc : Nat → Nat → Int) {i : Nat} (h : (i : Int) < S 0 0 0) : wC u ad S sc 16 i = some (ad 16 i, .inl (u.2 1, 12, .inr (.inl (fun x => jL (S 21 i x))))) := if_pos h
/-- the cells of the reference -/
def wM (u : cx_U) (ad : Nat → Nat → Nat) (S : cs_S) (sc : Nat → Nat → Int) : cx_W := fun k i => match k with
  | 20 => if i = 0 then some (ad 20 0, .inr (4, [.int (jI (S 0 0 0)), .ref (ad 21 0), .ref (ad 22 0), .ref (ad 23 0), .ref (ad 24 0), .ref (ad 25 0), .ref (ad 26 0), .ref (ad 27 0), .ref (ad 28 0), .int (jI (S 1 0 0)), .ref (ad 29 0), .ref (ad 30 0), .ref (ad 31 0), .ref (ad 32 0), .ref (ad 33 0), .int (jI (S 2 0 0)), .ref (ad 34 0), .ref (ad 35 0), .ref (ad 36 0), .int (jI (S 3 0 0)), .int (jI (S 4 0 0)), .ref (ad 37 0), .ref (ad 38 0), .ref (ad 39 0), .ref (ad 40 0)])) else none
  | 21 => if i = 0 then some (ad 21 0, .inl (u.2 1, 8, .inr (.inl (fun x => jL (S 12 x 0))))) else none
  | 22 => if i = 0 then some (ad 22 0, .inl (u.2 1, 8, .inr (.inl (fun x => jL (S 13 x 0))))) else none
  | 23 => if i = 0 then some (ad 23 0, .inl (u.2 0, 8, .inl (fun x => jI (S 15 x 0)))) else none
  | 24 => if i = 0 then some (ad 24 0, .inl (u.2 2, 8, .inl (fun x => jI (S 14 x 0)))) else none
  | 25 => if i = 0 then some (ad 25 0, .inl (u.2 0, 8, .inl (fun x => jI (S 16 x 0)))) else none
  | 26 => if i = 0 then some (ad 26 0, .inl (u.2 1, 8, .inr (.inl (fun x => jL (S 19 x 0))))) else none
  | 27 => if i = 0 then some (ad 27 0, .inl (u.2 1, 8, .inr (.inl (fun x => jL (S 17 x 0))))) else none
  | 28 => if i = 0 then some (ad 28 0, .inl (u.2 1, 8, .inr (.inl (fun x => jL (S 18 x 0))))) else none
  | 29 => if i = 0 then some (ad 29 0, .inl (u.2 0, 12, .inl (fun x => jI (S 5 x 0)))) else none
  | 30 => if i = 0 then some (ad 30 0, .inl (u.2 0, 12, .inl (fun x => jI (S 6 x 0)))) else none
  | 31 => if i = 0 then some (ad 31 0, .inl (u.2 1, 96, .inr (.inl (fun x => jL (S 20 (x / 12) (x % 12)))))) else none
  | 32 => if i = 0 then some (ad 32 0, .inl (u.2 1, 96, .inr (.inl (fun x => jL (S 21 (x / 12) (x % 12)))))) else none
  | 33 => if i = 0 then some (ad 33 0, .inl (u.2 1, 12, .inr (.inl (fun x => jL (sc 0 x))))) else none
  | 34 => if i = 0 then some (ad 34 0, .inl (u.2 0, 200, .inl (fun x => jI (12 * S 7 x 0 + S 8 x 0)))) else none
  | 35 => if i = 0 then some (ad 35 0, .inl (u.2 1, 200, .inr (.inl (fun x => jL (S 9 x 0))))) else none
  | 36 => if i = 0 then some (ad 36 0, .inl (u.2 0, 200, .inl (fun x => jI (S 10 x 0)))) else none
  | 37 => if i = 0 then some (ad 37 0, .inl (u.2 0, 100, .inl (fun x => jI (S 11 (x / 10) (x % 10))))) else none
  | 38 => if i = 0 then some (ad 38 0, .inl (u.2 1, 10, .inr (.inl (fun x => jL (sc 1 x))))) else none
  | 39 => if i = 0 then some (ad 39 0, .inl (u.2 1, 10, .inr (.inl (fun x => jL (sc 2 x))))) else none
  | 40 => if i = 0 then some (ad 40 0, .inl (u.2 1, 10, .inr (.inl (fun x => jL (sc 3 x))))) else none
  | _ => none
theorem wM_20 (u : cx_U) (ad : Nat → Nat → Nat) (S : cs_S) (sc : Nat → Nat → Int) : wM u ad S sc 20 0 = some (ad 20 0, .inr (4, [.int (jI (S 0 0 0)), .ref (ad 21 0), .ref (ad 22 0), .ref (ad 23 0), .ref (ad 24 0), .ref (ad 25 0), .ref (ad 26 0), .ref (ad 27 0), .ref (ad 28 0), .int (jI (S 1 0 0)), .ref (ad 29 0), .ref (ad 30 0), .ref (ad 31 0), .ref (ad 32 0), .ref (ad 33 0), .int (jI (S 2 0 0)), .ref (ad 34 0), .ref (ad 35 0), .ref (ad 36 0), .int (jI (S 3 0 0)), .int (jI (S 4 0 0)), .ref (ad 37 0), .ref (ad 38 0), .ref (ad 39 0), .ref (ad 40 0)])) := rfl
theorem wM_21 (u : cx_U) (ad : Nat → Nat → Nat) (S : cs_S) (sc : Nat → Nat → Int) : wM u ad S sc 21 0 = some (ad 21 0, .inl (u.2 1, 8, .inr (.inl (fun x => jL (S 12 x 0))))) := rfl
theorem wM_22 (u : cx_U) (ad : Nat → Nat → Nat) (S : cs_S) (sc : Nat → Nat → Int) : wM u ad S sc 22 0 = some (ad 22 0, .inl (u.2 1, 8, .inr (.inl (fun x => jL (S 13 x 0))))) := rfl
theorem wM_23 (u : cx_U) (ad : Nat → Nat → Nat) (S : cs_S) (sc : Nat → Nat → Int) : wM u ad S sc 23 0 = some (ad 23 0, .inl (u.2 0, 8, .inl (fun x => jI (S 15 x 0)))) := rfl
theorem wM_24 (u : cx_U) (ad : Nat → Nat → Nat) (S : cs_S) (sc : Nat → Nat → Int) : wM u ad S sc 24 0 = some (ad 24 0, .inl (u.2 2, 8, .inl (fun x => jI (S 14 x 0)))) := rfl
theorem wM_25 (u : cx_U) (ad : Nat → Nat → Nat) (S : cs_S) (sc : Nat → Nat → Int) : wM u ad S sc 25 0 = some (ad 25 0, .inl (u.2 0, 8, .inl (fun x => jI (S 16 x 0)))) := rfl
theorem wM_26 (u : cx_U) (ad : Nat → Nat → Nat) (S : cs_S) (sc : Nat → Nat → Int) : wM u ad S sc 26 0 = some (ad 26 0, .inl (u.2 1, 8, .inr (.inl (fun x => jL (S 19 x 0))))) := rfl
theorem wM_27 (u : cx_U) (ad : Nat → Nat → Nat) (S : cs_S) (sc : Nat → Nat → Int) : wM u ad S sc 27 0 = some (ad 27 0, .inl (u.2 1, 8, .inr (.inl (fun x => jL (S 17 x 0))))) := rfl
theorem wM_28 (u : cx_U) (ad : Nat → Nat → Nat) (S : cs_S) (sc : Nat → Nat → Int) : wM u ad S sc 28 0 = some (ad 28 0, .inl (u.2 1, 8, .inr (.inl (fun x => jL (S 18 x 0))))) := rfl
theorem wM_29 (u : cx_U) (ad : Nat → Nat → Nat) (S : cs_S) (sc : Nat → Nat → Int) : wM u ad S sc 29 0 = some (ad 29 0, .inl (u.2 0, 12, .inl (fun x => jI (S 5 x 0)))) := rfl
theorem wM_30 (u : cx_U) (ad : Nat → Nat → Nat) (S : cs_S) (sc : Nat → Nat → Int) : wM u ad S sc 30 0 = some (ad 30 0, .inl (u.2 0, 12, .inl (fun x => jI (S 6 x 0)))) := rfl
theorem wM_31 (u : cx_U) (ad : Nat → Nat → Nat) (S : cs_S) (sc : Nat → Nat → Int) : wM u ad S sc 31 0 = some (ad 31 0, .inl (u.2 1, 96, .inr (.inl (fun x => jL (S 20 (x / 12) (x % 12)))))) := rfl
theorem wM_32 (u : cx_U) (ad : Nat → Nat → Nat) (S : cs_S) (sc : Nat → Nat → Int) : wM u ad S sc 32 0 = some (ad 32 0, .inl (u.2 1, 96, .inr (.inl (fun x => jL (S 21 (x / 12) (x % 12)))))) := rfl
theorem wM_33 (u : cx_U) (ad : Nat → Nat → Nat) (S : cs_S) (sc : Nat → Nat → Int) : wM u ad S sc 33 0 = some (ad 33 0, .inl (u.2 1, 12, .inr (.inl (fun x => jL (sc 0 x))))) := rfl
theorem wM_34 (u : cx_U) (ad : Nat → Nat → Nat) (S : cs_S) (sc : Nat → Nat → Int) : wM u ad S sc 34 0 = some (ad 34 0, .inl (u.2 0, 200, .inl (fun x => jI (12 * S 7 x 0 + S 8 x 0)))) := rfl
theorem wM_35 (u : cx_U) (ad : Nat → Nat → Nat) (S : cs_S) (sc : Nat → Nat → Int) : wM u ad S sc 35 0 = some (ad 35 0, .inl (u.2 1, 200, .inr (.inl (fun x => jL (S 9 x 0))))) := rfl
theorem wM_36 (u : cx_U) (ad : Nat → Nat → Nat) (S : cs_S) (sc : Nat → Nat → Int) : wM u ad S sc 36 0 = some (ad 36 0, .inl (u.2 0, 200, .inl (fun x => jI (S 10 x 0)))) := rfl
theorem wM_37 (u : cx_U) (ad : Nat → Nat → Nat) (S : cs_S) (sc : Nat → Nat → Int) : wM u ad S sc 37 0 = some (ad 37 0, .inl (u.2 0, 100, .inl (fun x => jI (S 11 (x / 10) (x % 10))))) := rfl
theorem wM_38 (u : cx_U) (ad : Nat → Nat → Nat) (S : cs_S) (sc : Nat → Nat → Int) : wM u ad S sc 38 0 = some (ad 38 0, .inl (u.2 1, 10, .inr (.inl (fun x => jL (sc 1 x))))) := rfl
theorem wM_39 (u : cx_U) (ad : Nat → Nat → Nat) (S : cs_S) (sc : Nat → Nat → Int) : wM u ad S sc 39 0 = some (ad 39 0, .inl (u.2 1, 10, .inr (.inl (fun x => jL (sc 2 x))))) := rfl
theorem wM_40 (u : cx_U) (ad : Nat → Nat → Nat) (S : cs_S) (sc : Nat → Nat → Int) : wM u ad S sc 40 0 = some (ad 40 0, .inl (u.2 1, 10, .inr (.inl (fun x => jL (sc 3 x))))) := rfl
/-- what holds of every state that a run of calls comes to -/
def cs_I (S : cs_S) : Prop :=
  (0 ≤ S 0 0 0 ∧ S 0 0 0 ≤ 8 ∧ 0 ≤ S 1 0 0 ∧ S 1 0 0 ≤ 12 ∧ 0 ≤ S 2 0 0 ∧ S 2 0 0 ≤ 200 ∧ 1 ≤ S 3 0 0 ∧ S 3 0 0 ≤ 1000 ∧ 1 ≤ S 4 0 0 ∧ S 4 0 0 ≤ 1000) ∧
  (∀ h : Nat, 0 ≤ S 5 h 0 ∧ S 5 h 0 ≤ 9 ∧ -1 ≤ S 6 h 0 ∧ S 6 h 0 ≤ 3) ∧
  (∀ k : Nat, 0 ≤ S 7 k 0 ∧ S 7 k 0 ≤ 7 ∧ 0 ≤ S 8 k 0 ∧ S 8 k 0 ≤ 11 ∧ 0 ≤ S 9 k 0 ∧ S 9 k 0 ≤ 1000000000 ∧ 0 ≤ S 10 k 0 ∧ S 10 k 0 ≤ 99999) ∧
  (∀ i j : Nat, 0 ≤ S 11 i j ∧ S 11 i j ≤ 100) ∧
  (∀ i : Nat, 0 ≤ S 12 i 0 ∧ S 12 i 0 ≤ 1000000000 ∧ 0 ≤ S 13 i 0 ∧ S 13 i 0 ≤ S 12 i 0 ∧ 0 ≤ S 14 i 0 ∧ S 14 i 0 ≤ 1 ∧ -1 ≤ S 15 i 0 ∧ S 15 i 0 ≤ 7 ∧ 0 ≤ S 16 i 0 ∧ S 16 i 0 ≤ 100 ∧ 0 ≤ S 17 i 0 ∧ S 17 i 0 ≤ 1000000 ∧ 0 ≤ S 18 i 0 ∧ S 18 i 0 ≤ 1000000) ∧
  (∀ i h : Nat, 0 ≤ S 20 i h ∧ S 20 i h ≤ 1000000 ∧ 0 ≤ S 21 i h ∧ S 21 i h ≤ 2000000000) ∧
  (∀ i : Nat, cs_sum (S 21 i) 12 ≤ 2000000000)
end
