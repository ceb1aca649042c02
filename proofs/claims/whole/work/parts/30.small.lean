set_option maxHeartbeats 4000000 in
set_option maxRecDepth 100000 in
theorem c_C_isWithin (l : Launch) (u : cx_U) (w : cx_W) (x a b : Int) (x1 : -9223372036854775808 ≤ x) (x2 : x ≤ 9223372036854775807) (a1 : -9223372036854775808 ≤ a) (a2 : a ≤ 9223372036854775807) (b1 : -9223372036854775808 ≤ b) (b2 : b ≤ 9223372036854775807) : cx_N l u mn_C_isWithin bc_C_isWithin 6 (some .boolean) 0 0 [.long (jL (x)), .long (jL (a)), .long (jL (b))] (w) (.int (jI (jB (a ≤ x ∧ x ≤ b)))) := by
  refine cx_N.of (by decide +kernel) (Nat.le_of_ble_eq_true rfl) ?_
  intro p e s m args below meth c ls A X hr hlk B hl
  have X : CallFix p m c bc_C_isWithin 6 s args GW "CatchShares" := X
  have hl : lv_has ls 6 [(0, .long (jL (x))), (2, .long (jL (a))), (4, .long (jL (b)))] := hl
  refine lv_lload_n X.1 X.2.1 dc_C_isWithin_0 rfl (lv_at hl 0 rfl) ?_
  refine lv_lload_n X.1 X.2.1 dc_C_isWithin_1 rfl (lv_at hl 1 rfl) ?_
  refine cx_lcmp_lt (tgt := 17) X (by omega) (by omega) (by omega) (by omega) dc_C_isWithin_2 dc_C_isWithin_3 (by decide) (fun c_1 => ?_) (fun c_1 => ?_)
  · refine cx_iconst X dc_C_isWithin_17 ?_
    exact cx_zretN X hr hlk (by omega) (by omega) (by rw [jB_f (by omega)]) dc_C_isWithin_18
  · refine lv_lload_n X.1 X.2.1 dc_C_isWithin_6 rfl (lv_at hl 0 rfl) ?_
    refine lv_lload X.1 X.2.1 dc_C_isWithin_7 (lv_at hl 2 rfl) ?_
    refine cx_lcmp_gt (tgt := 17) X (by omega) (by omega) (by omega) (by omega) dc_C_isWithin_9 dc_C_isWithin_10 (by decide) (fun c_2 => ?_) (fun c_2 => ?_)
    · refine cx_iconst X dc_C_isWithin_17 ?_
      exact cx_zretN X hr hlk (by omega) (by omega) (by rw [jB_f (by omega)]) dc_C_isWithin_18
    · refine cx_iconst X dc_C_isWithin_13 ?_
      refine lv_goto (tgt := 18) X.1 X.2.1 dc_C_isWithin_14 (by decide) ?_
      exact cx_zretN X hr hlk (by omega) (by omega) (by rw [jB_t (by omega)]) dc_C_isWithin_18
set_option maxHeartbeats 4000000 in
set_option maxRecDepth 100000 in
theorem c_C_isFraction (l : Launch) (u : cx_U) (w : cx_W) (a b : Int) (a1 : -2147483648 ≤ a) (a2 : a ≤ 2147483647) (b1 : -2147483648 ≤ b) (b2 : b ≤ 2147483647) : cx_N l u mn_C_isFraction bc_C_isFraction 2 (some .boolean) 1 25 [.int (jI (a)), .int (jI (b))] (w) (.int (jI (jB (1 ≤ a ∧ a ≤ 1000 ∧ 1 ≤ b ∧ b ≤ 1000)))) := by
  refine cx_N.of (by decide +kernel) (Nat.le_of_ble_eq_true rfl) ?_
  intro p e s m args below meth c ls A X hr hlk B hl
  have X : CallFix p m c bc_C_isFraction 2 s args GW "CatchShares" := X
  have hl : lv_has ls 2 [(0, .int (jI (a))), (1, .int (jI (b)))] := hl
  refine lv_iload_n X.1 X.2.1 dc_C_isFraction_0 rfl (lv_at hl 0 rfl) ?_
  refine cx_i2l X (by omega) (by omega) dc_C_isFraction_1 ?_
  refine cx_lconst (a := 1) X dc_C_isFraction_2 (by decide +kernel) ?_
  refine cx_ldc2 (a := 1000) X gk_C_192 (by decide +kernel) dc_C_isFraction_3 ?_
  refine cx_cSN (r := .int (jI (jB (1 ≤ a ∧ a ≤ 1000)))) (As := [.long (jL (a)), .long (jL (1)), .long (jL (1000))]) (rest := []) X B kc_C_isWithin gm_C_48 (c_C_isWithin l u _ a 1 1000 (by omega) (by omega) (by omega) (by omega) (by omega) (by omega)) (fun _ _ _ h => h) ⟨(Nat.le_of_ble_eq_true rfl), (Nat.le_of_ble_eq_true rfl)⟩ ⟨(Nat.le_of_ble_eq_true rfl), (Nat.le_of_ble_eq_true rfl)⟩ rfl hl.1 (Nat.le_of_ble_eq_true rfl) dc_C_isFraction_6 rfl ?_
  refine cx_ifeqB (tgt := 28) X dc_C_isFraction_9 (by decide) (fun c_1 => ?_) (fun c_1 => ?_)
  · refine cx_iconst X dc_C_isFraction_28 ?_
    exact cx_zretN X hr hlk (by omega) (by omega) (by rw [jB_f (by omega)]) dc_C_isFraction_29
  · refine lv_iload_n X.1 X.2.1 dc_C_isFraction_12 rfl (lv_at hl 1 rfl) ?_
    refine cx_i2l X (by omega) (by omega) dc_C_isFraction_13 ?_
    refine cx_lconst (a := 1) X dc_C_isFraction_14 (by decide +kernel) ?_
    refine cx_ldc2 (a := 1000) X gk_C_192 (by decide +kernel) dc_C_isFraction_15 ?_
    refine cx_cSN (r := .int (jI (jB (1 ≤ b ∧ b ≤ 1000)))) (As := [.long (jL (b)), .long (jL (1)), .long (jL (1000))]) (rest := []) X B kc_C_isWithin gm_C_48 (c_C_isWithin l u _ b 1 1000 (by omega) (by omega) (by omega) (by omega) (by omega) (by omega)) (fun _ _ _ h => h) ⟨(Nat.le_of_ble_eq_true rfl), (Nat.le_of_ble_eq_true rfl)⟩ ⟨(Nat.le_of_ble_eq_true rfl), (Nat.le_of_ble_eq_true rfl)⟩ rfl hl.1 (Nat.le_of_ble_eq_true rfl) dc_C_isFraction_18 rfl ?_
    refine cx_ifeqB (tgt := 28) X dc_C_isFraction_21 (by decide) (fun c_2 => ?_) (fun c_2 => ?_)
    · refine cx_iconst X dc_C_isFraction_28 ?_
      exact cx_zretN X hr hlk (by omega) (by omega) (by rw [jB_f (by omega)]) dc_C_isFraction_29
    · refine cx_iconst X dc_C_isFraction_24 ?_
      refine lv_goto (tgt := 29) X.1 X.2.1 dc_C_isFraction_25 (by decide) ?_
      exact cx_zretN X hr hlk (by omega) (by omega) (by rw [jB_t (by omega)]) dc_C_isFraction_29
set_option maxHeartbeats 4000000 in
set_option maxRecDepth 100000 in
theorem c_C_dividedUp (l : Launch) (u : cx_U) (w : cx_W) (x y : Int) (x1 : 0 ≤ x) (x2 : x ≤ 1000000000000000000) (y1 : 1 ≤ y) (y2 : y ≤ 1000000000) : cx_N l u mn_C_dividedUp bc_C_dividedUp 4 (some .long) 0 0 [.long (jL (x)), .long (jL (y))] (w) (.long (jL ((x + y - 1) / y))) := by
  refine cx_N.of (by decide +kernel) (Nat.le_of_ble_eq_true rfl) ?_
  intro p e s m args below meth c ls A X hr hlk B hl
  have X : CallFix p m c bc_C_dividedUp 4 s args GW "CatchShares" := X
  have hl : lv_has ls 4 [(0, .long (jL (x))), (2, .long (jL (y)))] := hl
  refine lv_lload_n X.1 X.2.1 dc_C_dividedUp_0 rfl (lv_at hl 1 rfl) ?_
  refine cx_lconst (a := 1) X dc_C_dividedUp_1 (by decide +kernel) ?_
  refine cx_lcmp_ge (tgt := 10) X (by omega) (by omega) (by omega) (by omega) dc_C_dividedUp_2 dc_C_dividedUp_3 (by decide) (fun c_1 => ?_) (fun c_1 => by exfalso; omega)
  refine lv_lload_n X.1 X.2.1 dc_C_dividedUp_10 rfl (lv_at hl 0 rfl) ?_
  refine lv_lload_n X.1 X.2.1 dc_C_dividedUp_11 rfl (lv_at hl 1 rfl) ?_
  refine cx_ladd X dc_C_dividedUp_12 ?_
  refine cx_lconst (a := 1) X dc_C_dividedUp_13 (by decide +kernel) ?_
  refine cx_lsub X dc_C_dividedUp_14 ?_
  refine lv_lload_n X.1 X.2.1 dc_C_dividedUp_15 rfl (lv_at hl 1 rfl) ?_
  refine cx_ldiv X (by omega) (by omega) (by omega) (by omega) dc_C_dividedUp_16 ?_
  exact cx_lretN X hr hlk (rfl) dc_C_dividedUp_17
set_option maxHeartbeats 4000000 in
set_option maxRecDepth 100000 in
theorem c_C_isOwner (l : Launch) (u : cx_U) (w : cx_W) (a : Int) (a1 : -2147483648 ≤ a) (a2 : a ≤ 2147483647) : cx_N l u mn_C_isOwner bc_C_isOwner 1 (some .boolean) 0 0 [.int (jI (a))] (w) (.int (jI (jB (0 ≤ a ∧ a < 10)))) := by
  refine cx_N.of (by decide +kernel) (Nat.le_of_ble_eq_true rfl) ?_
  intro p e s m args below meth c ls A X hr hlk B hl
  have X : CallFix p m c bc_C_isOwner 1 s args GW "CatchShares" := X
  have hl : lv_has ls 1 [(0, .int (jI (a)))] := hl
  refine lv_iload_n X.1 X.2.1 dc_C_isOwner_0 rfl (lv_at hl 0 rfl) ?_
  refine cx_if_lt (tgt := 14) X (by omega) (by omega) dc_C_isOwner_1 (by decide) (fun c_1 => ?_) (fun c_1 => ?_)
  · refine cx_iconst X dc_C_isOwner_14 ?_
    exact cx_zretN X hr hlk (by omega) (by omega) (by rw [jB_f (by omega)]) dc_C_isOwner_15
  · refine lv_iload_n X.1 X.2.1 dc_C_isOwner_4 rfl (lv_at hl 0 rfl) ?_
    refine cx_bipush X dc_C_isOwner_5 (by decide +kernel) ?_
    refine cx_icmp_ge (tgt := 14) X (by omega) (by omega) (by omega) (by omega) dc_C_isOwner_7 (by decide) (fun c_2 => ?_) (fun c_2 => ?_)
    · refine cx_iconst X dc_C_isOwner_14 ?_
      exact cx_zretN X hr hlk (by omega) (by omega) (by rw [jB_f (by omega)]) dc_C_isOwner_15
    · refine cx_iconst X dc_C_isOwner_10 ?_
      refine lv_goto (tgt := 15) X.1 X.2.1 dc_C_isOwner_11 (by decide) ?_
      exact cx_zretN X hr hlk (by omega) (by omega) (by rw [jB_t (by omega)]) dc_C_isOwner_15
set_option maxHeartbeats 4000000 in
set_option maxRecDepth 100000 in
theorem c_C_isPool (l : Launch) (u : cx_U) (w : cx_W) (a : Int) (a1 : -2147483648 ≤ a) (a2 : a ≤ 2147483647) : cx_N l u mn_C_isPool bc_C_isPool 1 (some .boolean) 0 0 [.int (jI (a))] (w) (.int (jI (jB (0 ≤ a ∧ a < 4)))) := by
  refine cx_N.of (by decide +kernel) (Nat.le_of_ble_eq_true rfl) ?_
  intro p e s m args below meth c ls A X hr hlk B hl
  have X : CallFix p m c bc_C_isPool 1 s args GW "CatchShares" := X
  have hl : lv_has ls 1 [(0, .int (jI (a)))] := hl
  refine lv_iload_n X.1 X.2.1 dc_C_isPool_0 rfl (lv_at hl 0 rfl) ?_
  refine cx_if_lt (tgt := 13) X (by omega) (by omega) dc_C_isPool_1 (by decide) (fun c_1 => ?_) (fun c_1 => ?_)
  · refine cx_iconst X dc_C_isPool_13 ?_
    exact cx_zretN X hr hlk (by omega) (by omega) (by rw [jB_f (by omega)]) dc_C_isPool_14
  · refine lv_iload_n X.1 X.2.1 dc_C_isPool_4 rfl (lv_at hl 0 rfl) ?_
    refine cx_iconst X dc_C_isPool_5 ?_
    refine cx_icmp_ge (tgt := 13) X (by omega) (by omega) (by omega) (by omega) dc_C_isPool_6 (by decide) (fun c_2 => ?_) (fun c_2 => ?_)
    · refine cx_iconst X dc_C_isPool_13 ?_
      exact cx_zretN X hr hlk (by omega) (by omega) (by rw [jB_f (by omega)]) dc_C_isPool_14
    · refine cx_iconst X dc_C_isPool_9 ?_
      refine lv_goto (tgt := 14) X.1 X.2.1 dc_C_isPool_10 (by decide) ?_
      exact cx_zretN X hr hlk (by omega) (by omega) (by rw [jB_t (by omega)]) dc_C_isPool_14
set_option maxHeartbeats 4000000 in
set_option maxRecDepth 100000 in
theorem c_C_isHolder (l : Launch) (u : cx_U) (ad : Nat → Nat → Nat) (S : cs_S) (sc : Nat → Nat → Int) (hI : cs_I S) (a : Int) (a1 : -2147483648 ≤ a) (a2 : a ≤ 2147483647) : cx_N l u mn_C_isHolder bc_C_isHolder 2 (some .boolean) 0 0 [.ref (ad 0 0), .int (jI (a))] (wC u ad S sc) (.int (jI (jB (0 ≤ a ∧ a < S 1 0 0)))) := by
  refine cx_N.of (by decide +kernel) (Nat.le_of_ble_eq_true rfl) ?_
  intro p e s m args below meth c ls A X hr hlk B hl
  have X : CallFix p m c bc_C_isHolder 2 s args GW "CatchShares" := X
  have hl : lv_has ls 2 [(0, .ref (ad 0 0)), (1, .int (jI (a)))] := hl
  have hI1 := hI.1
  refine lv_iload_n X.1 X.2.1 dc_C_isHolder_0 rfl (lv_at hl 1 rfl) ?_
  refine cx_if_lt (tgt := 16) X (by omega) (by omega) dc_C_isHolder_1 (by decide) (fun c_1 => ?_) (fun c_1 => ?_)
  · refine cx_iconst X dc_C_isHolder_16 ?_
    exact cx_zretN X hr hlk (by omega) (by omega) (by rw [jB_f (by omega)]) dc_C_isHolder_17
  · refine lv_iload_n X.1 X.2.1 dc_C_isHolder_4 rfl (lv_at hl 1 rfl) ?_
    refine lv_aload_n X.1 X.2.1 dc_C_isHolder_5 rfl (lv_at hl 0 rfl) ?_
    refine cx_get (v := .int (jI (S 1 0 0))) X B (wC_0 u ad S sc) rfl uw_C 4 (by decide) gf_C_55 rfl dc_C_isHolder_6 ?_
    refine cx_icmp_ge (tgt := 16) X (by omega) (by omega) (by omega) (by omega) dc_C_isHolder_9 (by decide) (fun c_2 => ?_) (fun c_2 => ?_)
    · refine cx_iconst X dc_C_isHolder_16 ?_
      exact cx_zretN X hr hlk (by omega) (by omega) (by rw [jB_f (by omega)]) dc_C_isHolder_17
    · refine cx_iconst X dc_C_isHolder_12 ?_
      refine lv_goto (tgt := 17) X.1 X.2.1 dc_C_isHolder_13 (by decide) ?_
      exact cx_zretN X hr hlk (by omega) (by omega) (by rw [jB_t (by omega)]) dc_C_isHolder_17
set_option maxHeartbeats 4000000 in
set_option maxRecDepth 100000 in
theorem c_C_findStock (l : Launch) (u : cx_U) (ad : Nat → Nat → Nat) (S : cs_S) (sc : Nat → Nat → Int) (hI : cs_I S) (i : Nat) (hi : (i : Int) < S 0 0 0) : cx_N l u mn_C_findStock bc_C_findStock 2 (some (.object "CatchShares$Stock")) 0 0 [.ref (ad 0 0), .int (jI ((i : Int)))] (wC u ad S sc) (.ref (ad 14 i)) := by
  refine cx_N.of (by decide +kernel) (Nat.le_of_ble_eq_true rfl) ?_
  intro p e s m args below meth c ls A X hr hlk B hl
  have X : CallFix p m c bc_C_findStock 2 s args GW "CatchShares" := X
  have hl : lv_has ls 2 [(0, .ref (ad 0 0)), (1, .int (jI ((i : Int))))] := hl
  have hI1 := hI.1
  refine lv_iload_n X.1 X.2.1 dc_C_findStock_0 rfl (lv_at hl 1 rfl) ?_
  refine cx_if_lt (tgt := 21) X (by omega) (by omega) dc_C_findStock_1 (by decide) (fun c_1 => by exfalso; omega) (fun c_1 => ?_)
  refine lv_iload_n X.1 X.2.1 dc_C_findStock_4 rfl (lv_at hl 1 rfl) ?_
  refine lv_aload_n X.1 X.2.1 dc_C_findStock_5 rfl (lv_at hl 0 rfl) ?_
  refine cx_get (v := .int (jI (S 0 0 0))) X B (wC_0 u ad S sc) rfl uw_C 1 (by decide) gf_C_43 rfl dc_C_findStock_6 ?_
  refine cx_icmp_ge (tgt := 21) X (by omega) (by omega) (by omega) (by omega) dc_C_findStock_9 (by decide) (fun c_2 => by exfalso; omega) (fun c_2 => ?_)
  refine lv_aload_n X.1 X.2.1 dc_C_findStock_12 rfl (lv_at hl 0 rfl) ?_
  refine cx_get (v := .ref (ad 1 0)) X B (wC_0 u ad S sc) rfl uw_C 0 (by decide) gf_C_11 rfl dc_C_findStock_13 ?_
  refine lv_iload_n X.1 X.2.1 dc_C_findStock_16 rfl (lv_at hl 1 rfl) ?_
  refine cx_aald X B (wC_1 u ad S sc) i (by omega) (by omega) (by decide) dc_C_findStock_17 ?_
  rw [if_pos hi]
  refine lv_goto (tgt := 22) X.1 X.2.1 dc_C_findStock_18 (by decide) ?_
  exact cx_aretN X hr hlk rfl (Or.inr ⟨_, rfl⟩) dc_C_findStock_22
set_option maxHeartbeats 4000000 in
set_option maxRecDepth 100000 in
theorem c_C_findStock_0 (l : Launch) (u : cx_U) (ad : Nat → Nat → Nat) (S : cs_S) (sc : Nat → Nat → Int) (hI : cs_I S) (a : Int) (a1 : -2147483648 ≤ a) (a2 : a ≤ 2147483647) (hi : ¬ (0 ≤ a ∧ a < S 0 0 0)) : cx_N l u mn_C_findStock bc_C_findStock 2 (some (.object "CatchShares$Stock")) 0 0 [.ref (ad 0 0), .int (jI (a))] (wC u ad S sc) (.null) := by
  refine cx_N.of (by decide +kernel) (Nat.le_of_ble_eq_true rfl) ?_
  intro p e s m args below meth c ls A X hr hlk B hl
  have X : CallFix p m c bc_C_findStock 2 s args GW "CatchShares" := X
  have hl : lv_has ls 2 [(0, .ref (ad 0 0)), (1, .int (jI (a)))] := hl
  have hI1 := hI.1
  refine lv_iload_n X.1 X.2.1 dc_C_findStock_0 rfl (lv_at hl 1 rfl) ?_
  refine cx_if_lt (tgt := 21) X (by omega) (by omega) dc_C_findStock_1 (by decide) (fun c_1 => ?_) (fun c_1 => ?_)
  · refine lv_null X.1 X.2.1 dc_C_findStock_21 ?_
    exact cx_aretN X hr hlk rfl (Or.inl rfl) dc_C_findStock_22
  · refine lv_iload_n X.1 X.2.1 dc_C_findStock_4 rfl (lv_at hl 1 rfl) ?_
    refine lv_aload_n X.1 X.2.1 dc_C_findStock_5 rfl (lv_at hl 0 rfl) ?_
    refine cx_get (v := .int (jI (S 0 0 0))) X B (wC_0 u ad S sc) rfl uw_C 1 (by decide) gf_C_43 rfl dc_C_findStock_6 ?_
    refine cx_icmp_ge (tgt := 21) X (by omega) (by omega) (by omega) (by omega) dc_C_findStock_9 (by decide) (fun c_2 => ?_) (fun c_2 => by exfalso; omega)
    refine lv_null X.1 X.2.1 dc_C_findStock_21 ?_
    exact cx_aretN X hr hlk rfl (Or.inl rfl) dc_C_findStock_22
