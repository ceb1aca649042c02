set_option maxHeartbeats 4000000 in
set_option maxRecDepth 100000 in
theorem c_M_stock (l : Launch) (u : cx_U) (sz : Nat) (ad : Nat → Nat → Nat) (S : cs_S) (sc : Nat → Nat → Int) (hI : cs_I S) (al : Int) (al1 : -9223372036854775808 ≤ al) (al2 : al ≤ 9223372036854775807) : cx_M l u mn_M_stock bc_M_stock 3 (some .int) 1 25 [.ref (ad 20 0), .long (jL (al))] (wM u ad S sc) sz (some (.int (jI (cs_stockQ S al)))) (fun w' => w' = wM u ad (op_stock S al) sc) 0 0 := by
  refine cx_M.of (by decide +kernel) (Nat.le_of_ble_eq_true rfl) ?_
  intro p e s m args below meth c ls hsz X hr hlk hin B hl
  have X : CallFix p m c bc_M_stock 3 s args GW "CatchSharesModel" := X
  have hl : lv_has ls 3 [(0, .ref (ad 20 0)), (1, .long (jL (al)))] := hl
  have hI1 := hI.1
  obtain ⟨n, hn⟩ : ∃ n : Nat, S 0 0 0 = (n : Int) := ⟨(S 0 0 0).toNat, by omega⟩
  have hnn : (S 0 0 0).toNat = n := by omega
  refine lv_aload_n X.1 X.2.1 dc_M_stock_0 rfl (lv_at hl 0 rfl) ?_
  refine cx_get (v := .int (jI (S 0 0 0))) X B (wM_20 u ad S sc) rfl uw_M 0 (by decide) gf_M_79 rfl dc_M_stock_1 ?_
  refine cx_bipush X dc_M_stock_4 (by decide +kernel) ?_
  refine cx_icmp_eq (tgt := 20) X (by omega) (by omega) (by omega) (by omega) dc_M_stock_6 (by decide) (fun c_1 => ?_) (fun c_1 => ?_)
  · refine cx_iconst X dc_M_stock_20 ?_
    have hQ : ¬ (S 0 0 0 < 8 ∧ 0 ≤ al ∧ al ≤ 1000000000) := by omega
    exact cx_iretM X B hsz hr hlk (Nat.le_of_ble_eq_true rfl) (Nat.le_of_ble_eq_true rfl) (by rw [cs_stockQ, if_neg hQ]) (by rw [op_stock, if_neg hQ]) dc_M_stock_21
  · refine lv_lload_n X.1 X.2.1 dc_M_stock_9 rfl (lv_at hl 1 rfl) ?_
    refine cx_lconst (a := 0) X dc_M_stock_10 (by decide +kernel) ?_
    refine cx_ldc2 (a := 1000000000) X gk_M_91 (by decide +kernel) dc_M_stock_11 ?_
    refine cx_cSN (r := .int (jI (jB (0 ≤ al ∧ al ≤ 1000000000)))) (As := [.long (jL (al)), .long (jL (0)), .long (jL (1000000000))]) (rest := []) X B kc_M_in gm_M_82 (c_M_in l u _ al 0 1000000000 (by omega) (by omega) (by omega) (by omega) (by omega) (by omega)) (fun _ _ _ h => h) ⟨(Nat.le_of_ble_eq_true rfl), (Nat.le_of_ble_eq_true rfl)⟩ ⟨(Nat.le_of_ble_eq_true rfl), (Nat.le_of_ble_eq_true rfl)⟩ rfl hl.1 (Nat.le_of_ble_eq_true rfl) dc_M_stock_14 rfl ?_
    refine cx_ifneB (tgt := 22) X dc_M_stock_17 (by decide) (fun c_2 => ?_) (fun c_2 => ?_)
    · refine lv_aload_n X.1 X.2.1 dc_M_stock_22 rfl (lv_at hl 0 rfl) ?_
      refine cx_get (v := .ref (ad 21 0)) X B (wM_20 u ad S sc) rfl uw_M 1 (by decide) gf_M_7 rfl dc_M_stock_23 ?_
      refine lv_aload_n X.1 X.2.1 dc_M_stock_26 rfl (lv_at hl 0 rfl) ?_
      refine cx_get (v := .int (jI (S 0 0 0))) X B (wM_20 u ad S sc) rfl uw_M 0 (by decide) gf_M_79 rfl dc_M_stock_27 ?_
      refine lv_lload_n X.1 X.2.1 dc_M_stock_30 rfl (lv_at hl 1 rfl) ?_
      refine cx_last X B (wM_21 u ad S sc) (n) (by omega) (by omega) (by decide) dc_M_stock_31 (fun H locs B => ?_)
      have B : cx_B u (cx_A (wM u ad S sc) sz) (cx_up (wM u ad S sc) 21 0 (ad 21 0, .inl (u.2 1, 8, .inr (.inl (fun z_ => jL (va_up (fun z_ => S 12 z_ 0) n al z_)))))) s H locs := B
      refine lv_aload_n X.1 X.2.1 dc_M_stock_32 rfl (lv_at hl 0 rfl) ?_
      refine cx_get (v := .ref (ad 23 0)) X B ((cx_up_n _ _ (fun q => absurd q.1 (by decide))).trans (wM_20 u ad S sc)) rfl uw_M 3 (by decide) gf_M_16 rfl dc_M_stock_33 ?_
      refine lv_aload_n X.1 X.2.1 dc_M_stock_36 rfl (lv_at hl 0 rfl) ?_
      refine cx_get (v := .int (jI (S 0 0 0))) X B ((cx_up_n _ _ (fun q => absurd q.1 (by decide))).trans (wM_20 u ad S sc)) rfl uw_M 0 (by decide) gf_M_79 rfl dc_M_stock_37 ?_
      refine cx_iconst X dc_M_stock_40 ?_
      refine cx_iast X B ((cx_up_n _ _ (fun q => absurd q.1 (by decide))).trans (wM_23 u ad S sc)) (n) (by omega) (by omega) (by decide) dc_M_stock_41 (fun H locs B => ?_)
      have B : cx_B u (cx_A (wM u ad S sc) sz) (cx_up (cx_up (wM u ad S sc) 21 0 (ad 21 0, .inl (u.2 1, 8, .inr (.inl (fun z_ => jL (va_up (fun z_ => S 12 z_ 0) n al z_)))))) 23 0 (ad 23 0, .inl (u.2 0, 8, .inl (fun z_ => jI (va_up (fun z_ => S 15 z_ 0) n (-1) z_))))) s H locs := B
      refine lv_aload_n X.1 X.2.1 dc_M_stock_42 rfl (lv_at hl 0 rfl) ?_
      refine cx_get (v := .ref (ad 25 0)) X B ((cx_up_n _ _ (fun q => absurd q.1 (by decide))).trans ((cx_up_n _ _ (fun q => absurd q.1 (by decide))).trans (wM_20 u ad S sc))) rfl uw_M 5 (by decide) gf_M_24 rfl dc_M_stock_43 ?_
      refine lv_aload_n X.1 X.2.1 dc_M_stock_46 rfl (lv_at hl 0 rfl) ?_
      refine cx_get (v := .int (jI (S 0 0 0))) X B ((cx_up_n _ _ (fun q => absurd q.1 (by decide))).trans ((cx_up_n _ _ (fun q => absurd q.1 (by decide))).trans (wM_20 u ad S sc))) rfl uw_M 0 (by decide) gf_M_79 rfl dc_M_stock_47 ?_
      refine cx_bipush X dc_M_stock_50 (by decide +kernel) ?_
      refine cx_iast X B ((cx_up_n _ _ (fun q => absurd q.1 (by decide))).trans ((cx_up_n _ _ (fun q => absurd q.1 (by decide))).trans (wM_25 u ad S sc))) (n) (by omega) (by omega) (by decide) dc_M_stock_52 (fun H locs B => ?_)
      have B : cx_B u (cx_A (wM u ad S sc) sz) (cx_up (cx_up (cx_up (wM u ad S sc) 21 0 (ad 21 0, .inl (u.2 1, 8, .inr (.inl (fun z_ => jL (va_up (fun z_ => S 12 z_ 0) n al z_)))))) 23 0 (ad 23 0, .inl (u.2 0, 8, .inl (fun z_ => jI (va_up (fun z_ => S 15 z_ 0) n (-1) z_))))) 25 0 (ad 25 0, .inl (u.2 0, 8, .inl (fun z_ => jI (va_up (fun z_ => S 16 z_ 0) n 100 z_))))) s H locs := B
      refine lv_aload_n X.1 X.2.1 dc_M_stock_53 rfl (lv_at hl 0 rfl) ?_
      refine lv_dup X.1 X.2.1 dc_M_stock_54 rfl ?_
      refine cx_get (v := .int (jI (S 0 0 0))) X B ((cx_up_n _ _ (fun q => absurd q.1 (by decide))).trans ((cx_up_n _ _ (fun q => absurd q.1 (by decide))).trans ((cx_up_n _ _ (fun q => absurd q.1 (by decide))).trans (wM_20 u ad S sc)))) rfl uw_M 0 (by decide) gf_M_79 rfl dc_M_stock_55 ?_
      refine cx_iconst X dc_M_stock_58 ?_
      refine cx_iadd X dc_M_stock_59 ?_
      refine cx_put (v := .int (jI ((S 0 0 0) + 1))) X B ((cx_up_n _ _ (fun q => absurd q.1 (by decide))).trans ((cx_up_n _ _ (fun q => absurd q.1 (by decide))).trans ((cx_up_n _ _ (fun q => absurd q.1 (by decide))).trans (wM_20 u ad S sc)))) rfl uw_M ft_M fo_M fn_M 0 (by decide) gf_M_79 rfl (fo_M 0 (by decide)) rfl rfl (Nat.le_of_ble_eq_true rfl) dc_M_stock_60 (fun H locs B => ?_)
      have B : cx_B u (cx_A (wM u ad S sc) sz) (cx_up (cx_up (cx_up (cx_up (wM u ad S sc) 21 0 (ad 21 0, .inl (u.2 1, 8, .inr (.inl (fun z_ => jL (va_up (fun z_ => S 12 z_ 0) n al z_)))))) 23 0 (ad 23 0, .inl (u.2 0, 8, .inl (fun z_ => jI (va_up (fun z_ => S 15 z_ 0) n (-1) z_))))) 25 0 (ad 25 0, .inl (u.2 0, 8, .inl (fun z_ => jI (va_up (fun z_ => S 16 z_ 0) n 100 z_))))) 20 0 (ad 20 0, .inr (4, [.int (jI ((S 0 0 0) + 1)), .ref (ad 21 0), .ref (ad 22 0), .ref (ad 23 0), .ref (ad 24 0), .ref (ad 25 0), .ref (ad 26 0), .ref (ad 27 0), .ref (ad 28 0), .int (jI (S 1 0 0)), .ref (ad 29 0), .ref (ad 30 0), .ref (ad 31 0), .ref (ad 32 0), .ref (ad 33 0), .int (jI (S 2 0 0)), .ref (ad 34 0), .ref (ad 35 0), .ref (ad 36 0), .int (jI (S 3 0 0)), .int (jI (S 4 0 0)), .ref (ad 37 0), .ref (ad 38 0), .ref (ad 39 0), .ref (ad 40 0)]))) s H locs := B
      refine lv_aload_n X.1 X.2.1 dc_M_stock_63 rfl (lv_at hl 0 rfl) ?_
      refine cx_get (v := .int (jI ((S 0 0 0) + 1))) X B (cx_up_s _ _ _ _) rfl uw_M 0 (by decide) gf_M_79 rfl dc_M_stock_64 ?_
      refine cx_iconst X dc_M_stock_67 ?_
      refine cx_isub X dc_M_stock_68 ?_
      have hQ : S 0 0 0 < 8 ∧ 0 ≤ al ∧ al ≤ 1000000000 := by omega
      have hG : cx_up (cx_up (cx_up (cx_up (wM u ad S sc) 21 0 (ad 21 0, .inl (u.2 1, 8, .inr (.inl (fun z_ => jL (va_up (fun z_ => S 12 z_ 0) n al z_)))))) 23 0 (ad 23 0, .inl (u.2 0, 8, .inl (fun z_ => jI (va_up (fun z_ => S 15 z_ 0) n (-1) z_))))) 25 0 (ad 25 0, .inl (u.2 0, 8, .inl (fun z_ => jI (va_up (fun z_ => S 16 z_ 0) n 100 z_))))) 20 0 (ad 20 0, .inr (4, [.int (jI ((S 0 0 0) + 1)), .ref (ad 21 0), .ref (ad 22 0), .ref (ad 23 0), .ref (ad 24 0), .ref (ad 25 0), .ref (ad 26 0), .ref (ad 27 0), .ref (ad 28 0), .int (jI (S 1 0 0)), .ref (ad 29 0), .ref (ad 30 0), .ref (ad 31 0), .ref (ad 32 0), .ref (ad 33 0), .int (jI (S 2 0 0)), .ref (ad 34 0), .ref (ad 35 0), .ref (ad 36 0), .int (jI (S 3 0 0)), .int (jI (S 4 0 0)), .ref (ad 37 0), .ref (ad 38 0), .ref (ad 39 0), .ref (ad 40 0)])) = wM u ad (op_stock S al) sc := by
        rw [op_stock, if_pos hQ]
        funext k j
        match k with
        | 0 => simp [cx_up, wM]
        | 1 => simp [cx_up, wM]
        | 2 => simp [cx_up, wM]
        | 3 => simp [cx_up, wM]
        | 4 => simp [cx_up, wM]
        | 5 => simp [cx_up, wM]
        | 6 => simp [cx_up, wM]
        | 7 => simp [cx_up, wM]
        | 8 => simp [cx_up, wM]
        | 9 => simp [cx_up, wM]
        | 10 => simp [cx_up, wM]
        | 11 => simp [cx_up, wM]
        | 12 => simp [cx_up, wM]
        | 13 => simp [cx_up, wM]
        | 14 => simp [cx_up, wM]
        | 15 => simp [cx_up, wM]
        | 16 => simp [cx_up, wM]
        | 17 => simp [cx_up, wM]
        | 18 => simp [cx_up, wM]
        | 19 => simp [cx_up, wM]
        | 20 => by_cases hz : j = 0 <;> simp [cx_up, wM, cs_u, hz, va_upE, Int.toNat_natCast, hnn]
        | 21 => by_cases hz : j = 0 <;> simp [cx_up, wM, cs_u, hz, va_upE, Int.toNat_natCast, hnn]
        | 22 => by_cases hz : j = 0 <;> simp [cx_up, wM, cs_u, hz, va_upE, Int.toNat_natCast, hnn]
        | 23 => by_cases hz : j = 0 <;> simp [cx_up, wM, cs_u, hz, va_upE, Int.toNat_natCast, hnn]
        | 24 => by_cases hz : j = 0 <;> simp [cx_up, wM, cs_u, hz, va_upE, Int.toNat_natCast, hnn]
        | 25 => by_cases hz : j = 0 <;> simp [cx_up, wM, cs_u, hz, va_upE, Int.toNat_natCast, hnn]
        | 26 => by_cases hz : j = 0 <;> simp [cx_up, wM, cs_u, hz, va_upE, Int.toNat_natCast, hnn]
        | 27 => by_cases hz : j = 0 <;> simp [cx_up, wM, cs_u, hz, va_upE, Int.toNat_natCast, hnn]
        | 28 => by_cases hz : j = 0 <;> simp [cx_up, wM, cs_u, hz, va_upE, Int.toNat_natCast, hnn]
        | 29 => by_cases hz : j = 0 <;> simp [cx_up, wM, cs_u, hz, va_upE, Int.toNat_natCast, hnn]
        | 30 => by_cases hz : j = 0 <;> simp [cx_up, wM, cs_u, hz, va_upE, Int.toNat_natCast, hnn]
        | 31 => by_cases hz : j = 0 <;> simp [cx_up, wM, cs_u, hz, va_upE, Int.toNat_natCast, hnn]
        | 32 => by_cases hz : j = 0 <;> simp [cx_up, wM, cs_u, hz, va_upE, Int.toNat_natCast, hnn]
        | 33 => by_cases hz : j = 0 <;> simp [cx_up, wM, cs_u, hz, va_upE, Int.toNat_natCast, hnn]
        | 34 => by_cases hz : j = 0 <;> simp [cx_up, wM, cs_u, hz, va_upE, Int.toNat_natCast, hnn]
        | 35 => by_cases hz : j = 0 <;> simp [cx_up, wM, cs_u, hz, va_upE, Int.toNat_natCast, hnn]
        | 36 => by_cases hz : j = 0 <;> simp [cx_up, wM, cs_u, hz, va_upE, Int.toNat_natCast, hnn]
        | 37 => by_cases hz : j = 0 <;> simp [cx_up, wM, cs_u, hz, va_upE, Int.toNat_natCast, hnn]
        | 38 => by_cases hz : j = 0 <;> simp [cx_up, wM, cs_u, hz, va_upE, Int.toNat_natCast, hnn]
        | 39 => by_cases hz : j = 0 <;> simp [cx_up, wM, cs_u, hz, va_upE, Int.toNat_natCast, hnn]
        | 40 => by_cases hz : j = 0 <;> simp [cx_up, wM, cs_u, hz, va_upE, Int.toNat_natCast, hnn]
        | k + 41 => simp [cx_up, wM]
      exact cx_iretM X B hsz hr hlk (Nat.le_of_ble_eq_true rfl) (Nat.le_of_ble_eq_true rfl) (by rw [cs_stockQ, if_pos hQ]; congr 3; omega) (hG) dc_M_stock_69
    · refine cx_iconst X dc_M_stock_20 ?_
      have hQ : ¬ (S 0 0 0 < 8 ∧ 0 ≤ al ∧ al ≤ 1000000000) := by omega
      exact cx_iretM X B hsz hr hlk (Nat.le_of_ble_eq_true rfl) (Nat.le_of_ble_eq_true rfl) (by rw [cs_stockQ, if_neg hQ]) (by rw [op_stock, if_neg hQ]) dc_M_stock_21
set_option maxHeartbeats 4000000 in
set_option maxRecDepth 100000 in
theorem c_M_holder (l : Launch) (u : cx_U) (sz : Nat) (ad : Nat → Nat → Nat) (S : cs_S) (sc : Nat → Nat → Int) (hI : cs_I S) (a : Int) (a1 : -2147483648 ≤ a) (a2 : a ≤ 2147483647) : cx_M l u mn_M_holder bc_M_holder 2 (some .int) 2 45 [.ref (ad 20 0), .int (jI (a))] (wM u ad S sc) sz (some (.int (jI (cs_holderQ S a)))) (fun w' => w' = wM u ad (op_holder S a) sc) 0 0 := by
  refine cx_M.of (by decide +kernel) (Nat.le_of_ble_eq_true rfl) ?_
  intro p e s m args below meth c ls hsz X hr hlk hin B hl
  have X : CallFix p m c bc_M_holder 2 s args GW "CatchSharesModel" := X
  have hl : lv_has ls 2 [(0, .ref (ad 20 0)), (1, .int (jI (a)))] := hl
  have hI1 := hI.1
  obtain ⟨n, hn⟩ : ∃ n : Nat, S 1 0 0 = (n : Int) := ⟨(S 1 0 0).toNat, by omega⟩
  have hnn : (S 1 0 0).toNat = n := by omega
  refine lv_aload_n X.1 X.2.1 dc_M_holder_0 rfl (lv_at hl 0 rfl) ?_
  refine cx_get (v := .int (jI (S 1 0 0))) X B (wM_20 u ad S sc) rfl uw_M 9 (by decide) gf_M_86 rfl dc_M_holder_1 ?_
  refine cx_bipush X dc_M_holder_4 (by decide +kernel) ?_
  refine cx_icmp_eq (tgt := 16) X (by omega) (by omega) (by omega) (by omega) dc_M_holder_6 (by decide) (fun c_1 => ?_) (fun c_1 => ?_)
  · refine cx_iconst X dc_M_holder_16 ?_
    have hQ : ¬ (S 1 0 0 < 12 ∧ 0 ≤ a ∧ a < 10) := by omega
    exact cx_iretM X B hsz hr hlk (Nat.le_of_ble_eq_true rfl) (Nat.le_of_ble_eq_true rfl) (by rw [cs_holderQ, if_neg hQ]) (by rw [op_holder, if_neg hQ]) dc_M_holder_17
  · refine lv_iload_n X.1 X.2.1 dc_M_holder_9 rfl (lv_at hl 1 rfl) ?_
    refine cx_cSN (r := .int (jI (jB (0 ≤ a ∧ a < 10)))) (As := [.int (jI (a))]) (rest := []) X B kc_M_isOwner gm_M_93 (c_M_isOwner l u _ a (by omega) (by omega)) (fun _ _ _ h => h) ⟨(Nat.le_of_ble_eq_true rfl), (Nat.le_of_ble_eq_true rfl)⟩ ⟨(Nat.le_of_ble_eq_true rfl), (Nat.le_of_ble_eq_true rfl)⟩ rfl hl.1 (Nat.le_of_ble_eq_true rfl) dc_M_holder_10 rfl ?_
    refine cx_ifneB (tgt := 18) X dc_M_holder_13 (by decide) (fun c_2 => ?_) (fun c_2 => ?_)
    · refine lv_aload_n X.1 X.2.1 dc_M_holder_18 rfl (lv_at hl 0 rfl) ?_
      refine cx_get (v := .ref (ad 29 0)) X B (wM_20 u ad S sc) rfl uw_M 10 (by decide) gf_M_36 rfl dc_M_holder_19 ?_
      refine lv_aload_n X.1 X.2.1 dc_M_holder_22 rfl (lv_at hl 0 rfl) ?_
      refine cx_get (v := .int (jI (S 1 0 0))) X B (wM_20 u ad S sc) rfl uw_M 9 (by decide) gf_M_86 rfl dc_M_holder_23 ?_
      refine lv_iload_n X.1 X.2.1 dc_M_holder_26 rfl (lv_at hl 1 rfl) ?_
      refine cx_iast X B (wM_29 u ad S sc) (n) (by omega) (by omega) (by decide) dc_M_holder_27 (fun H locs B => ?_)
      have B : cx_B u (cx_A (wM u ad S sc) sz) (cx_up (wM u ad S sc) 29 0 (ad 29 0, .inl (u.2 0, 12, .inl (fun z_ => jI (va_up (fun z_ => S 5 z_ 0) n a z_))))) s H locs := B
      refine lv_aload_n X.1 X.2.1 dc_M_holder_28 rfl (lv_at hl 0 rfl) ?_
      refine cx_get (v := .ref (ad 30 0)) X B ((cx_up_n _ _ (fun q => absurd q.1 (by decide))).trans (wM_20 u ad S sc)) rfl uw_M 11 (by decide) gf_M_39 rfl dc_M_holder_29 ?_
      refine lv_aload_n X.1 X.2.1 dc_M_holder_32 rfl (lv_at hl 0 rfl) ?_
      refine cx_get (v := .int (jI (S 1 0 0))) X B ((cx_up_n _ _ (fun q => absurd q.1 (by decide))).trans (wM_20 u ad S sc)) rfl uw_M 9 (by decide) gf_M_86 rfl dc_M_holder_33 ?_
      refine cx_iconst X dc_M_holder_36 ?_
      refine cx_iast X B ((cx_up_n _ _ (fun q => absurd q.1 (by decide))).trans (wM_30 u ad S sc)) (n) (by omega) (by omega) (by decide) dc_M_holder_37 (fun H locs B => ?_)
      have B : cx_B u (cx_A (wM u ad S sc) sz) (cx_up (cx_up (wM u ad S sc) 29 0 (ad 29 0, .inl (u.2 0, 12, .inl (fun z_ => jI (va_up (fun z_ => S 5 z_ 0) n a z_))))) 30 0 (ad 30 0, .inl (u.2 0, 12, .inl (fun z_ => jI (va_up (fun z_ => S 6 z_ 0) n (-1) z_))))) s H locs := B
      refine lv_aload_n X.1 X.2.1 dc_M_holder_38 rfl (lv_at hl 0 rfl) ?_
      refine lv_dup X.1 X.2.1 dc_M_holder_39 rfl ?_
      refine cx_get (v := .int (jI (S 1 0 0))) X B ((cx_up_n _ _ (fun q => absurd q.1 (by decide))).trans ((cx_up_n _ _ (fun q => absurd q.1 (by decide))).trans (wM_20 u ad S sc))) rfl uw_M 9 (by decide) gf_M_86 rfl dc_M_holder_40 ?_
      refine cx_iconst X dc_M_holder_43 ?_
      refine cx_iadd X dc_M_holder_44 ?_
      refine cx_put (v := .int (jI ((S 1 0 0) + 1))) X B ((cx_up_n _ _ (fun q => absurd q.1 (by decide))).trans ((cx_up_n _ _ (fun q => absurd q.1 (by decide))).trans (wM_20 u ad S sc))) rfl uw_M ft_M fo_M fn_M 9 (by decide) gf_M_86 rfl (fo_M 9 (by decide)) rfl rfl (Nat.le_of_ble_eq_true rfl) dc_M_holder_45 (fun H locs B => ?_)
      have B : cx_B u (cx_A (wM u ad S sc) sz) (cx_up (cx_up (cx_up (wM u ad S sc) 29 0 (ad 29 0, .inl (u.2 0, 12, .inl (fun z_ => jI (va_up (fun z_ => S 5 z_ 0) n a z_))))) 30 0 (ad 30 0, .inl (u.2 0, 12, .inl (fun z_ => jI (va_up (fun z_ => S 6 z_ 0) n (-1) z_))))) 20 0 (ad 20 0, .inr (4, [.int (jI (S 0 0 0)), .ref (ad 21 0), .ref (ad 22 0), .ref (ad 23 0), .ref (ad 24 0), .ref (ad 25 0), .ref (ad 26 0), .ref (ad 27 0), .ref (ad 28 0), .int (jI ((S 1 0 0) + 1)), .ref (ad 29 0), .ref (ad 30 0), .ref (ad 31 0), .ref (ad 32 0), .ref (ad 33 0), .int (jI (S 2 0 0)), .ref (ad 34 0), .ref (ad 35 0), .ref (ad 36 0), .int (jI (S 3 0 0)), .int (jI (S 4 0 0)), .ref (ad 37 0), .ref (ad 38 0), .ref (ad 39 0), .ref (ad 40 0)]))) s H locs := B
      refine lv_aload_n X.1 X.2.1 dc_M_holder_48 rfl (lv_at hl 0 rfl) ?_
      refine cx_get (v := .int (jI ((S 1 0 0) + 1))) X B (cx_up_s _ _ _ _) rfl uw_M 9 (by decide) gf_M_86 rfl dc_M_holder_49 ?_
      refine cx_iconst X dc_M_holder_52 ?_
      refine cx_isub X dc_M_holder_53 ?_
      have hQ : S 1 0 0 < 12 ∧ 0 ≤ a ∧ a < 10 := by omega
      have hG : cx_up (cx_up (cx_up (wM u ad S sc) 29 0 (ad 29 0, .inl (u.2 0, 12, .inl (fun z_ => jI (va_up (fun z_ => S 5 z_ 0) n a z_))))) 30 0 (ad 30 0, .inl (u.2 0, 12, .inl (fun z_ => jI (va_up (fun z_ => S 6 z_ 0) n (-1) z_))))) 20 0 (ad 20 0, .inr (4, [.int (jI (S 0 0 0)), .ref (ad 21 0), .ref (ad 22 0), .ref (ad 23 0), .ref (ad 24 0), .ref (ad 25 0), .ref (ad 26 0), .ref (ad 27 0), .ref (ad 28 0), .int (jI ((S 1 0 0) + 1)), .ref (ad 29 0), .ref (ad 30 0), .ref (ad 31 0), .ref (ad 32 0), .ref (ad 33 0), .int (jI (S 2 0 0)), .ref (ad 34 0), .ref (ad 35 0), .ref (ad 36 0), .int (jI (S 3 0 0)), .int (jI (S 4 0 0)), .ref (ad 37 0), .ref (ad 38 0), .ref (ad 39 0), .ref (ad 40 0)])) = wM u ad (op_holder S a) sc := by
        rw [op_holder, if_pos hQ]
        funext k j
        match k with
        | 0 => simp [cx_up, wM]
        | 1 => simp [cx_up, wM]
        | 2 => simp [cx_up, wM]
        | 3 => simp [cx_up, wM]
        | 4 => simp [cx_up, wM]
        | 5 => simp [cx_up, wM]
        | 6 => simp [cx_up, wM]
        | 7 => simp [cx_up, wM]
        | 8 => simp [cx_up, wM]
        | 9 => simp [cx_up, wM]
        | 10 => simp [cx_up, wM]
        | 11 => simp [cx_up, wM]
        | 12 => simp [cx_up, wM]
        | 13 => simp [cx_up, wM]
        | 14 => simp [cx_up, wM]
        | 15 => simp [cx_up, wM]
        | 16 => simp [cx_up, wM]
        | 17 => simp [cx_up, wM]
        | 18 => simp [cx_up, wM]
        | 19 => simp [cx_up, wM]
        | 20 => by_cases hz : j = 0 <;> simp [cx_up, wM, cs_u, hz, va_upE, Int.toNat_natCast, hnn]
        | 21 => by_cases hz : j = 0 <;> simp [cx_up, wM, cs_u, hz, va_upE, Int.toNat_natCast, hnn]
        | 22 => by_cases hz : j = 0 <;> simp [cx_up, wM, cs_u, hz, va_upE, Int.toNat_natCast, hnn]
        | 23 => by_cases hz : j = 0 <;> simp [cx_up, wM, cs_u, hz, va_upE, Int.toNat_natCast, hnn]
        | 24 => by_cases hz : j = 0 <;> simp [cx_up, wM, cs_u, hz, va_upE, Int.toNat_natCast, hnn]
        | 25 => by_cases hz : j = 0 <;> simp [cx_up, wM, cs_u, hz, va_upE, Int.toNat_natCast, hnn]
        | 26 => by_cases hz : j = 0 <;> simp [cx_up, wM, cs_u, hz, va_upE, Int.toNat_natCast, hnn]
        | 27 => by_cases hz : j = 0 <;> simp [cx_up, wM, cs_u, hz, va_upE, Int.toNat_natCast, hnn]
        | 28 => by_cases hz : j = 0 <;> simp [cx_up, wM, cs_u, hz, va_upE, Int.toNat_natCast, hnn]
        | 29 => by_cases hz : j = 0 <;> simp [cx_up, wM, cs_u, hz, va_upE, Int.toNat_natCast, hnn]
        | 30 => by_cases hz : j = 0 <;> simp [cx_up, wM, cs_u, hz, va_upE, Int.toNat_natCast, hnn]
        | 31 => by_cases hz : j = 0 <;> simp [cx_up, wM, cs_u, hz, va_upE, Int.toNat_natCast, hnn]
        | 32 => by_cases hz : j = 0 <;> simp [cx_up, wM, cs_u, hz, va_upE, Int.toNat_natCast, hnn]
        | 33 => by_cases hz : j = 0 <;> simp [cx_up, wM, cs_u, hz, va_upE, Int.toNat_natCast, hnn]
        | 34 => by_cases hz : j = 0 <;> simp [cx_up, wM, cs_u, hz, va_upE, Int.toNat_natCast, hnn]
        | 35 => by_cases hz : j = 0 <;> simp [cx_up, wM, cs_u, hz, va_upE, Int.toNat_natCast, hnn]
        | 36 => by_cases hz : j = 0 <;> simp [cx_up, wM, cs_u, hz, va_upE, Int.toNat_natCast, hnn]
        | 37 => by_cases hz : j = 0 <;> simp [cx_up, wM, cs_u, hz, va_upE, Int.toNat_natCast, hnn]
        | 38 => by_cases hz : j = 0 <;> simp [cx_up, wM, cs_u, hz, va_upE, Int.toNat_natCast, hnn]
        | 39 => by_cases hz : j = 0 <;> simp [cx_up, wM, cs_u, hz, va_upE, Int.toNat_natCast, hnn]
        | 40 => by_cases hz : j = 0 <;> simp [cx_up, wM, cs_u, hz, va_upE, Int.toNat_natCast, hnn]
        | k + 41 => simp [cx_up, wM]
      exact cx_iretM X B hsz hr hlk (Nat.le_of_ble_eq_true rfl) (Nat.le_of_ble_eq_true rfl) (by rw [cs_holderQ, if_pos hQ]; congr 3; omega) (hG) dc_M_holder_54
    · refine cx_iconst X dc_M_holder_16 ?_
      have hQ : ¬ (S 1 0 0 < 12 ∧ 0 ≤ a ∧ a < 10) := by omega
      exact cx_iretM X B hsz hr hlk (Nat.le_of_ble_eq_true rfl) (Nat.le_of_ble_eq_true rfl) (by rw [cs_holderQ, if_neg hQ]) (by rw [op_holder, if_neg hQ]) dc_M_holder_17
set_option maxHeartbeats 4000000 in
set_option maxRecDepth 100000 in
theorem c_M_land (l : Launch) (u : cx_U) (sz : Nat) (ad : Nat → Nat → Nat) (S : cs_S) (sc : Nat → Nat → Int) (hI : cs_I S) (a b : Int) (a1 : -2147483648 ≤ a) (a2 : a ≤ 2147483647) (b1 : -2147483648 ≤ b) (b2 : b ≤ 2147483647) (g d t : Int) (g1 : -9223372036854775808 ≤ g) (g2 : g ≤ 9223372036854775807) (d1 : -2147483648 ≤ d) (d2 : d ≤ 2147483647) (t1 : -2147483648 ≤ t) (t2 : t ≤ 2147483647) : cx_M l u mn_M_land bc_M_land 7 (some .boolean) 2 46 [.ref (ad 20 0), .int (jI (a)), .int (jI (b)), .long (jL (g)), .int (jI (d)), .int (jI (t))] (wM u ad S sc) sz (some (.int (jI (jB (cs_landP S a b g d t))))) (fun w' => w' = wM u ad (op_land S a b g d t) sc) 0 0 := by
  refine cx_M.of (by decide +kernel) (Nat.le_of_ble_eq_true rfl) ?_
  intro p e s m args below meth c ls hsz X hr hlk hin B hl
  have X : CallFix p m c bc_M_land 7 s args GW "CatchSharesModel" := X
  have hl : lv_has ls 7 [(0, .ref (ad 20 0)), (1, .int (jI (a))), (2, .int (jI (b))), (3, .long (jL (g))), (5, .int (jI (d))), (6, .int (jI (t)))] := hl
  have hI1 := hI.1
  obtain ⟨n, hn⟩ : ∃ n : Nat, S 2 0 0 = (n : Int) := ⟨(S 2 0 0).toNat, by omega⟩
  have hnn : (S 2 0 0).toNat = n := by omega
  have hI5 := hI.2.2.2.2.1
  refine lv_aload_n X.1 X.2.1 dc_M_land_0 rfl (lv_at hl 0 rfl) ?_
  refine lv_iload_n X.1 X.2.1 dc_M_land_1 rfl (lv_at hl 1 rfl) ?_
  refine cx_cVN (r := .int (jI (jB (0 ≤ a ∧ a < S 0 0 0)))) (As := [.int (jI (a))]) (rest := []) X B kc_M_isStock gm_M_97 (c_M_isStock l u ad S sc hI a (by omega) (by omega)) (fun _ _ _ h => h) (wM_20 u ad S sc) rfl rfl ⟨(Nat.le_of_ble_eq_true rfl), (Nat.le_of_ble_eq_true rfl)⟩ ⟨(Nat.le_of_ble_eq_true rfl), (Nat.le_of_ble_eq_true rfl)⟩ rfl hl.1 (Nat.le_of_ble_eq_true rfl) dc_M_land_2 rfl ?_
  refine cx_ifeqB (tgt := 35) X dc_M_land_5 (by decide) (fun c_1 => ?_) (fun c_1 => ?_)
  · refine cx_iconst X dc_M_land_35 ?_
    have hQ : ¬ ((0 ≤ a ∧ a < S 0 0 0 ∧ 0 ≤ b ∧ b < S 1 0 0 ∧ S 14 a.toNat 0 = 1 ∧ 1 ≤ g ∧ g ≤ 1000000000 ∧ 0 ≤ d ∧ d ≤ 99999 ∧ 0 ≤ t ∧ t ≤ 99999 ∧ d ≤ t) ∧ S 2 0 0 < 200) := by (try simp only [cs_nn]); omega
    have hG : wM u ad S sc = wM u ad (op_land S a b g d t) sc := by
      rw [op_land]; by_cases hq : 0 ≤ a ∧ a < S 0 0 0 ∧ 0 ≤ b ∧ b < S 1 0 0 ∧ S 14 a.toNat 0 = 1 ∧ 1 ≤ g ∧ g ≤ 1000000000 ∧ 0 ≤ d ∧ d ≤ 99999 ∧ 0 ≤ t ∧ t ≤ 99999 ∧ d ≤ t
      · rw [if_pos hq, op_add, if_neg (fun q => hQ ⟨hq, q⟩)]
      · rw [if_neg hq]
    exact cx_zretM X B hsz hr hlk (Nat.le_of_ble_eq_true rfl) (Nat.le_of_ble_eq_true rfl) (by omega) (by omega) (congrArg (fun q => some (Value.int (jI q))) (jB_f hQ).symm) (hG) dc_M_land_36
  · obtain ⟨i, rfl⟩ : ∃ i : Nat, a = (i : Int) := ⟨a.toNat, by omega⟩
    have hi : (i : Int) < S 0 0 0 := by omega
    refine lv_aload_n X.1 X.2.1 dc_M_land_8 rfl (lv_at hl 0 rfl) ?_
    refine lv_iload_n X.1 X.2.1 dc_M_land_9 rfl (lv_at hl 2 rfl) ?_
    refine cx_cVN (r := .int (jI (jB (0 ≤ b ∧ b < S 1 0 0)))) (As := [.int (jI (b))]) (rest := []) X B kc_M_isHolder gm_M_100 (c_M_isHolder l u ad S sc hI b (by omega) (by omega)) (fun _ _ _ h => h) (wM_20 u ad S sc) rfl rfl ⟨(Nat.le_of_ble_eq_true rfl), (Nat.le_of_ble_eq_true rfl)⟩ ⟨(Nat.le_of_ble_eq_true rfl), (Nat.le_of_ble_eq_true rfl)⟩ rfl hl.1 (Nat.le_of_ble_eq_true rfl) dc_M_land_10 rfl ?_
    refine cx_ifeqB (tgt := 35) X dc_M_land_13 (by decide) (fun c_2 => ?_) (fun c_2 => ?_)
    · refine cx_iconst X dc_M_land_35 ?_
      have hQ : ¬ ((0 ≤ (i : Int) ∧ (i : Int) < S 0 0 0 ∧ 0 ≤ b ∧ b < S 1 0 0 ∧ S 14 (i : Int).toNat 0 = 1 ∧ 1 ≤ g ∧ g ≤ 1000000000 ∧ 0 ≤ d ∧ d ≤ 99999 ∧ 0 ≤ t ∧ t ≤ 99999 ∧ d ≤ t) ∧ S 2 0 0 < 200) := by (try simp only [cs_nn]); omega
      have hG : wM u ad S sc = wM u ad (op_land S (i : Int) b g d t) sc := by
        rw [op_land]; by_cases hq : 0 ≤ (i : Int) ∧ (i : Int) < S 0 0 0 ∧ 0 ≤ b ∧ b < S 1 0 0 ∧ S 14 (i : Int).toNat 0 = 1 ∧ 1 ≤ g ∧ g ≤ 1000000000 ∧ 0 ≤ d ∧ d ≤ 99999 ∧ 0 ≤ t ∧ t ≤ 99999 ∧ d ≤ t
        · rw [if_pos hq, op_add, if_neg (fun q => hQ ⟨hq, q⟩)]
        · rw [if_neg hq]
      exact cx_zretM X B hsz hr hlk (Nat.le_of_ble_eq_true rfl) (Nat.le_of_ble_eq_true rfl) (by omega) (by omega) (congrArg (fun q => some (Value.int (jI q))) (jB_f hQ).symm) (hG) dc_M_land_36
    · obtain ⟨h, rfl⟩ : ∃ h : Nat, b = (h : Int) := ⟨b.toNat, by omega⟩
      have hh : (h : Int) < S 1 0 0 := by omega
      refine lv_aload_n X.1 X.2.1 dc_M_land_16 rfl (lv_at hl 0 rfl) ?_
      refine cx_get (v := .ref (ad 24 0)) X B (wM_20 u ad S sc) rfl uw_M 4 (by decide) gf_M_20 rfl dc_M_land_17 ?_
      refine lv_iload_n X.1 X.2.1 dc_M_land_20 rfl (lv_at hl 1 rfl) ?_
      refine cx_zald X B (wM_24 u ad S sc) (i) (by omega) (by omega) (by decide) dc_M_land_21 ?_
      have r_3 := hI5 i
      refine cx_if_eq (tgt := 35) X (by omega) (by omega) dc_M_land_22 (by decide) (fun c_4 => ?_) (fun c_4 => ?_)
      · refine cx_iconst X dc_M_land_35 ?_
        have hQ : ¬ ((0 ≤ (i : Int) ∧ (i : Int) < S 0 0 0 ∧ 0 ≤ (h : Int) ∧ (h : Int) < S 1 0 0 ∧ S 14 (i : Int).toNat 0 = 1 ∧ 1 ≤ g ∧ g ≤ 1000000000 ∧ 0 ≤ d ∧ d ≤ 99999 ∧ 0 ≤ t ∧ t ≤ 99999 ∧ d ≤ t) ∧ S 2 0 0 < 200) := by (try simp only [cs_nn]); omega
        have hG : wM u ad S sc = wM u ad (op_land S (i : Int) (h : Int) g d t) sc := by
          rw [op_land]; by_cases hq : 0 ≤ (i : Int) ∧ (i : Int) < S 0 0 0 ∧ 0 ≤ (h : Int) ∧ (h : Int) < S 1 0 0 ∧ S 14 (i : Int).toNat 0 = 1 ∧ 1 ≤ g ∧ g ≤ 1000000000 ∧ 0 ≤ d ∧ d ≤ 99999 ∧ 0 ≤ t ∧ t ≤ 99999 ∧ d ≤ t
          · rw [if_pos hq, op_add, if_neg (fun q => hQ ⟨hq, q⟩)]
          · rw [if_neg hq]
        exact cx_zretM X B hsz hr hlk (Nat.le_of_ble_eq_true rfl) (Nat.le_of_ble_eq_true rfl) (by omega) (by omega) (congrArg (fun q => some (Value.int (jI q))) (jB_f hQ).symm) (hG) dc_M_land_36
      · refine lv_aload_n X.1 X.2.1 dc_M_land_25 rfl (lv_at hl 0 rfl) ?_
        refine cx_get (v := .int (jI (S 2 0 0))) X B (wM_20 u ad S sc) rfl uw_M 15 (by decide) gf_M_115 rfl dc_M_land_26 ?_
        refine cx_sipush X dc_M_land_29 (by decide +kernel) ?_
        refine cx_icmp_ne (tgt := 37) X (by omega) (by omega) (by omega) (by omega) dc_M_land_32 (by decide) (fun c_5 => ?_) (fun c_5 => ?_)
        · refine lv_lload_n X.1 X.2.1 dc_M_land_37 rfl (lv_at hl 3 rfl) ?_
          refine cx_lconst (a := 1) X dc_M_land_38 (by decide +kernel) ?_
          refine cx_ldc2 (a := 1000000000) X gk_M_91 (by decide +kernel) dc_M_land_39 ?_
          refine cx_cSN (r := .int (jI (jB (1 ≤ g ∧ g ≤ 1000000000)))) (As := [.long (jL (g)), .long (jL (1)), .long (jL (1000000000))]) (rest := []) X B kc_M_in gm_M_82 (c_M_in l u _ g 1 1000000000 (by omega) (by omega) (by omega) (by omega) (by omega) (by omega)) (fun _ _ _ h => h) ⟨(Nat.le_of_ble_eq_true rfl), (Nat.le_of_ble_eq_true rfl)⟩ ⟨(Nat.le_of_ble_eq_true rfl), (Nat.le_of_ble_eq_true rfl)⟩ rfl hl.1 (Nat.le_of_ble_eq_true rfl) dc_M_land_42 rfl ?_
          refine cx_ifeqB (tgt := 81) X dc_M_land_45 (by decide) (fun c_6 => ?_) (fun c_6 => ?_)
          · refine cx_iconst X dc_M_land_81 ?_
            have hQ : ¬ ((0 ≤ (i : Int) ∧ (i : Int) < S 0 0 0 ∧ 0 ≤ (h : Int) ∧ (h : Int) < S 1 0 0 ∧ S 14 (i : Int).toNat 0 = 1 ∧ 1 ≤ g ∧ g ≤ 1000000000 ∧ 0 ≤ d ∧ d ≤ 99999 ∧ 0 ≤ t ∧ t ≤ 99999 ∧ d ≤ t) ∧ S 2 0 0 < 200) := by (try simp only [cs_nn]); omega
            have hG : wM u ad S sc = wM u ad (op_land S (i : Int) (h : Int) g d t) sc := by
              rw [op_land]; by_cases hq : 0 ≤ (i : Int) ∧ (i : Int) < S 0 0 0 ∧ 0 ≤ (h : Int) ∧ (h : Int) < S 1 0 0 ∧ S 14 (i : Int).toNat 0 = 1 ∧ 1 ≤ g ∧ g ≤ 1000000000 ∧ 0 ≤ d ∧ d ≤ 99999 ∧ 0 ≤ t ∧ t ≤ 99999 ∧ d ≤ t
              · rw [if_pos hq, op_add, if_neg (fun q => hQ ⟨hq, q⟩)]
              · rw [if_neg hq]
            exact cx_zretM X B hsz hr hlk (Nat.le_of_ble_eq_true rfl) (Nat.le_of_ble_eq_true rfl) (by omega) (by omega) (congrArg (fun q => some (Value.int (jI q))) (jB_f hQ).symm) (hG) dc_M_land_82
          · refine lv_iload X.1 X.2.1 dc_M_land_48 (lv_at hl 4 rfl) ?_
            refine cx_i2l X (by omega) (by omega) dc_M_land_50 ?_
            refine cx_lconst (a := 0) X dc_M_land_51 (by decide +kernel) ?_
            refine cx_ldc2 (a := 99999) X gk_M_118 (by decide +kernel) dc_M_land_52 ?_
            refine cx_cSN (r := .int (jI (jB (0 ≤ d ∧ d ≤ 99999)))) (As := [.long (jL (d)), .long (jL (0)), .long (jL (99999))]) (rest := []) X B kc_M_in gm_M_82 (c_M_in l u _ d 0 99999 (by omega) (by omega) (by omega) (by omega) (by omega) (by omega)) (fun _ _ _ h => h) ⟨(Nat.le_of_ble_eq_true rfl), (Nat.le_of_ble_eq_true rfl)⟩ ⟨(Nat.le_of_ble_eq_true rfl), (Nat.le_of_ble_eq_true rfl)⟩ rfl hl.1 (Nat.le_of_ble_eq_true rfl) dc_M_land_55 rfl ?_
            refine cx_ifeqB (tgt := 81) X dc_M_land_58 (by decide) (fun c_7 => ?_) (fun c_7 => ?_)
            · refine cx_iconst X dc_M_land_81 ?_
              have hQ : ¬ ((0 ≤ (i : Int) ∧ (i : Int) < S 0 0 0 ∧ 0 ≤ (h : Int) ∧ (h : Int) < S 1 0 0 ∧ S 14 (i : Int).toNat 0 = 1 ∧ 1 ≤ g ∧ g ≤ 1000000000 ∧ 0 ≤ d ∧ d ≤ 99999 ∧ 0 ≤ t ∧ t ≤ 99999 ∧ d ≤ t) ∧ S 2 0 0 < 200) := by (try simp only [cs_nn]); omega
              have hG : wM u ad S sc = wM u ad (op_land S (i : Int) (h : Int) g d t) sc := by
                rw [op_land]; by_cases hq : 0 ≤ (i : Int) ∧ (i : Int) < S 0 0 0 ∧ 0 ≤ (h : Int) ∧ (h : Int) < S 1 0 0 ∧ S 14 (i : Int).toNat 0 = 1 ∧ 1 ≤ g ∧ g ≤ 1000000000 ∧ 0 ≤ d ∧ d ≤ 99999 ∧ 0 ≤ t ∧ t ≤ 99999 ∧ d ≤ t
                · rw [if_pos hq, op_add, if_neg (fun q => hQ ⟨hq, q⟩)]
                · rw [if_neg hq]
              exact cx_zretM X B hsz hr hlk (Nat.le_of_ble_eq_true rfl) (Nat.le_of_ble_eq_true rfl) (by omega) (by omega) (congrArg (fun q => some (Value.int (jI q))) (jB_f hQ).symm) (hG) dc_M_land_82
            · refine lv_iload X.1 X.2.1 dc_M_land_61 (lv_at hl 5 rfl) ?_
              refine cx_i2l X (by omega) (by omega) dc_M_land_63 ?_
              refine cx_lconst (a := 0) X dc_M_land_64 (by decide +kernel) ?_
              refine cx_ldc2 (a := 99999) X gk_M_118 (by decide +kernel) dc_M_land_65 ?_
              refine cx_cSN (r := .int (jI (jB (0 ≤ t ∧ t ≤ 99999)))) (As := [.long (jL (t)), .long (jL (0)), .long (jL (99999))]) (rest := []) X B kc_M_in gm_M_82 (c_M_in l u _ t 0 99999 (by omega) (by omega) (by omega) (by omega) (by omega) (by omega)) (fun _ _ _ h => h) ⟨(Nat.le_of_ble_eq_true rfl), (Nat.le_of_ble_eq_true rfl)⟩ ⟨(Nat.le_of_ble_eq_true rfl), (Nat.le_of_ble_eq_true rfl)⟩ rfl hl.1 (Nat.le_of_ble_eq_true rfl) dc_M_land_68 rfl ?_
              refine cx_ifeqB (tgt := 81) X dc_M_land_71 (by decide) (fun c_8 => ?_) (fun c_8 => ?_)
              · refine cx_iconst X dc_M_land_81 ?_
                have hQ : ¬ ((0 ≤ (i : Int) ∧ (i : Int) < S 0 0 0 ∧ 0 ≤ (h : Int) ∧ (h : Int) < S 1 0 0 ∧ S 14 (i : Int).toNat 0 = 1 ∧ 1 ≤ g ∧ g ≤ 1000000000 ∧ 0 ≤ d ∧ d ≤ 99999 ∧ 0 ≤ t ∧ t ≤ 99999 ∧ d ≤ t) ∧ S 2 0 0 < 200) := by (try simp only [cs_nn]); omega
                have hG : wM u ad S sc = wM u ad (op_land S (i : Int) (h : Int) g d t) sc := by
                  rw [op_land]; by_cases hq : 0 ≤ (i : Int) ∧ (i : Int) < S 0 0 0 ∧ 0 ≤ (h : Int) ∧ (h : Int) < S 1 0 0 ∧ S 14 (i : Int).toNat 0 = 1 ∧ 1 ≤ g ∧ g ≤ 1000000000 ∧ 0 ≤ d ∧ d ≤ 99999 ∧ 0 ≤ t ∧ t ≤ 99999 ∧ d ≤ t
                  · rw [if_pos hq, op_add, if_neg (fun q => hQ ⟨hq, q⟩)]
                  · rw [if_neg hq]
                exact cx_zretM X B hsz hr hlk (Nat.le_of_ble_eq_true rfl) (Nat.le_of_ble_eq_true rfl) (by omega) (by omega) (congrArg (fun q => some (Value.int (jI q))) (jB_f hQ).symm) (hG) dc_M_land_82
              · refine lv_iload X.1 X.2.1 dc_M_land_74 (lv_at hl 5 rfl) ?_
                refine lv_iload X.1 X.2.1 dc_M_land_76 (lv_at hl 4 rfl) ?_
                refine cx_icmp_ge (tgt := 83) X (by omega) (by omega) (by omega) (by omega) dc_M_land_78 (by decide) (fun c_9 => ?_) (fun c_9 => ?_)
                · refine lv_aload_n X.1 X.2.1 dc_M_land_83 rfl (lv_at hl 0 rfl) ?_
                  refine cx_get (v := .ref (ad 34 0)) X B (wM_20 u ad S sc) rfl uw_M 16 (by decide) gf_M_51 rfl dc_M_land_84 ?_
                  refine lv_aload_n X.1 X.2.1 dc_M_land_87 rfl (lv_at hl 0 rfl) ?_
                  refine cx_get (v := .int (jI (S 2 0 0))) X B (wM_20 u ad S sc) rfl uw_M 15 (by decide) gf_M_115 rfl dc_M_land_88 ?_
                  refine cx_bipush X dc_M_land_91 (by decide +kernel) ?_
                  refine lv_iload_n X.1 X.2.1 dc_M_land_93 rfl (lv_at hl 1 rfl) ?_
                  refine cx_imul X dc_M_land_94 ?_
                  refine lv_iload_n X.1 X.2.1 dc_M_land_95 rfl (lv_at hl 2 rfl) ?_
                  refine cx_iadd X dc_M_land_96 ?_
                  refine cx_iast X B (wM_34 u ad S sc) (n) (by omega) (by omega) (by decide) dc_M_land_97 (fun H locs B => ?_)
                  have B : cx_B u (cx_A (wM u ad S sc) sz) (cx_up (wM u ad S sc) 34 0 (ad 34 0, .inl (u.2 0, 200, .inl (fun z_ => jI (va_up (fun z_ => 12 * S 7 z_ 0 + S 8 z_ 0) n ((12 * (i : Int)) + (h : Int)) z_))))) s H locs := B
                  refine lv_aload_n X.1 X.2.1 dc_M_land_98 rfl (lv_at hl 0 rfl) ?_
                  refine cx_get (v := .ref (ad 35 0)) X B ((cx_up_n _ _ (fun q => absurd q.1 (by decide))).trans (wM_20 u ad S sc)) rfl uw_M 17 (by decide) gf_M_54 rfl dc_M_land_99 ?_
                  refine lv_aload_n X.1 X.2.1 dc_M_land_102 rfl (lv_at hl 0 rfl) ?_
                  refine cx_get (v := .int (jI (S 2 0 0))) X B ((cx_up_n _ _ (fun q => absurd q.1 (by decide))).trans (wM_20 u ad S sc)) rfl uw_M 15 (by decide) gf_M_115 rfl dc_M_land_103 ?_
                  refine lv_lload_n X.1 X.2.1 dc_M_land_106 rfl (lv_at hl 3 rfl) ?_
                  refine cx_last X B ((cx_up_n _ _ (fun q => absurd q.1 (by decide))).trans (wM_35 u ad S sc)) (n) (by omega) (by omega) (by decide) dc_M_land_107 (fun H locs B => ?_)
                  have B : cx_B u (cx_A (wM u ad S sc) sz) (cx_up (cx_up (wM u ad S sc) 34 0 (ad 34 0, .inl (u.2 0, 200, .inl (fun z_ => jI (va_up (fun z_ => 12 * S 7 z_ 0 + S 8 z_ 0) n ((12 * (i : Int)) + (h : Int)) z_))))) 35 0 (ad 35 0, .inl (u.2 1, 200, .inr (.inl (fun z_ => jL (va_up (fun z_ => S 9 z_ 0) n g z_)))))) s H locs := B
                  refine lv_aload_n X.1 X.2.1 dc_M_land_108 rfl (lv_at hl 0 rfl) ?_
                  refine cx_get (v := .ref (ad 36 0)) X B ((cx_up_n _ _ (fun q => absurd q.1 (by decide))).trans ((cx_up_n _ _ (fun q => absurd q.1 (by decide))).trans (wM_20 u ad S sc))) rfl uw_M 18 (by decide) gf_M_57 rfl dc_M_land_109 ?_
                  refine lv_aload_n X.1 X.2.1 dc_M_land_112 rfl (lv_at hl 0 rfl) ?_
                  refine cx_get (v := .int (jI (S 2 0 0))) X B ((cx_up_n _ _ (fun q => absurd q.1 (by decide))).trans ((cx_up_n _ _ (fun q => absurd q.1 (by decide))).trans (wM_20 u ad S sc))) rfl uw_M 15 (by decide) gf_M_115 rfl dc_M_land_113 ?_
                  refine lv_iload X.1 X.2.1 dc_M_land_116 (lv_at hl 5 rfl) ?_
                  refine cx_iast X B ((cx_up_n _ _ (fun q => absurd q.1 (by decide))).trans ((cx_up_n _ _ (fun q => absurd q.1 (by decide))).trans (wM_36 u ad S sc))) (n) (by omega) (by omega) (by decide) dc_M_land_118 (fun H locs B => ?_)
                  have B : cx_B u (cx_A (wM u ad S sc) sz) (cx_up (cx_up (cx_up (wM u ad S sc) 34 0 (ad 34 0, .inl (u.2 0, 200, .inl (fun z_ => jI (va_up (fun z_ => 12 * S 7 z_ 0 + S 8 z_ 0) n ((12 * (i : Int)) + (h : Int)) z_))))) 35 0 (ad 35 0, .inl (u.2 1, 200, .inr (.inl (fun z_ => jL (va_up (fun z_ => S 9 z_ 0) n g z_)))))) 36 0 (ad 36 0, .inl (u.2 0, 200, .inl (fun z_ => jI (va_up (fun z_ => S 10 z_ 0) n t z_))))) s H locs := B
                  refine lv_aload_n X.1 X.2.1 dc_M_land_119 rfl (lv_at hl 0 rfl) ?_
                  refine lv_dup X.1 X.2.1 dc_M_land_120 rfl ?_
                  refine cx_get (v := .int (jI (S 2 0 0))) X B ((cx_up_n _ _ (fun q => absurd q.1 (by decide))).trans ((cx_up_n _ _ (fun q => absurd q.1 (by decide))).trans ((cx_up_n _ _ (fun q => absurd q.1 (by decide))).trans (wM_20 u ad S sc)))) rfl uw_M 15 (by decide) gf_M_115 rfl dc_M_land_121 ?_
                  refine cx_iconst X dc_M_land_124 ?_
                  refine cx_iadd X dc_M_land_125 ?_
                  refine cx_put (v := .int (jI ((S 2 0 0) + 1))) X B ((cx_up_n _ _ (fun q => absurd q.1 (by decide))).trans ((cx_up_n _ _ (fun q => absurd q.1 (by decide))).trans ((cx_up_n _ _ (fun q => absurd q.1 (by decide))).trans (wM_20 u ad S sc)))) rfl uw_M ft_M fo_M fn_M 15 (by decide) gf_M_115 rfl (fo_M 15 (by decide)) rfl rfl (Nat.le_of_ble_eq_true rfl) dc_M_land_126 (fun H locs B => ?_)
                  have B : cx_B u (cx_A (wM u ad S sc) sz) (cx_up (cx_up (cx_up (cx_up (wM u ad S sc) 34 0 (ad 34 0, .inl (u.2 0, 200, .inl (fun z_ => jI (va_up (fun z_ => 12 * S 7 z_ 0 + S 8 z_ 0) n ((12 * (i : Int)) + (h : Int)) z_))))) 35 0 (ad 35 0, .inl (u.2 1, 200, .inr (.inl (fun z_ => jL (va_up (fun z_ => S 9 z_ 0) n g z_)))))) 36 0 (ad 36 0, .inl (u.2 0, 200, .inl (fun z_ => jI (va_up (fun z_ => S 10 z_ 0) n t z_))))) 20 0 (ad 20 0, .inr (4, [.int (jI (S 0 0 0)), .ref (ad 21 0), .ref (ad 22 0), .ref (ad 23 0), .ref (ad 24 0), .ref (ad 25 0), .ref (ad 26 0), .ref (ad 27 0), .ref (ad 28 0), .int (jI (S 1 0 0)), .ref (ad 29 0), .ref (ad 30 0), .ref (ad 31 0), .ref (ad 32 0), .ref (ad 33 0), .int (jI ((S 2 0 0) + 1)), .ref (ad 34 0), .ref (ad 35 0), .ref (ad 36 0), .int (jI (S 3 0 0)), .int (jI (S 4 0 0)), .ref (ad 37 0), .ref (ad 38 0), .ref (ad 39 0), .ref (ad 40 0)]))) s H locs := B
                  refine cx_iconst X dc_M_land_129 ?_
                  have hQ : 0 ≤ (i : Int) ∧ (i : Int) < S 0 0 0 ∧ 0 ≤ (h : Int) ∧ (h : Int) < S 1 0 0 ∧ S 14 (i : Int).toNat 0 = 1 ∧ 1 ≤ g ∧ g ≤ 1000000000 ∧ 0 ≤ d ∧ d ≤ 99999 ∧ 0 ≤ t ∧ t ≤ 99999 ∧ d ≤ t := by (try simp only [cs_nn]); omega
                  have hf : (fun z_ => jI (if z_ = n then 12 * (i : Int) + (h : Int) else 12 * S 7 z_ 0 + S 8 z_ 0)) = fun z_ => jI (12 * (if z_ = n then (i : Int) else S 7 z_ 0) + (if z_ = n then (h : Int) else S 8 z_ 0)) := by
                    funext z; by_cases hz : z = n <;> simp [hz]
                  have hG : cx_up (cx_up (cx_up (cx_up (wM u ad S sc) 34 0 (ad 34 0, .inl (u.2 0, 200, .inl (fun z_ => jI (va_up (fun z_ => 12 * S 7 z_ 0 + S 8 z_ 0) n ((12 * (i : Int)) + (h : Int)) z_))))) 35 0 (ad 35 0, .inl (u.2 1, 200, .inr (.inl (fun z_ => jL (va_up (fun z_ => S 9 z_ 0) n g z_)))))) 36 0 (ad 36 0, .inl (u.2 0, 200, .inl (fun z_ => jI (va_up (fun z_ => S 10 z_ 0) n t z_))))) 20 0 (ad 20 0, .inr (4, [.int (jI (S 0 0 0)), .ref (ad 21 0), .ref (ad 22 0), .ref (ad 23 0), .ref (ad 24 0), .ref (ad 25 0), .ref (ad 26 0), .ref (ad 27 0), .ref (ad 28 0), .int (jI (S 1 0 0)), .ref (ad 29 0), .ref (ad 30 0), .ref (ad 31 0), .ref (ad 32 0), .ref (ad 33 0), .int (jI ((S 2 0 0) + 1)), .ref (ad 34 0), .ref (ad 35 0), .ref (ad 36 0), .int (jI (S 3 0 0)), .int (jI (S 4 0 0)), .ref (ad 37 0), .ref (ad 38 0), .ref (ad 39 0), .ref (ad 40 0)])) = wM u ad (op_land S (i : Int) (h : Int) g d t) sc := by
                    rw [op_land, if_pos hQ, op_add, if_pos (by omega)]
                    funext k j
                    match k with
                    | 0 => simp [cx_up, wM]
                    | 1 => simp [cx_up, wM]
                    | 2 => simp [cx_up, wM]
                    | 3 => simp [cx_up, wM]
                    | 4 => simp [cx_up, wM]
                    | 5 => simp [cx_up, wM]
                    | 6 => simp [cx_up, wM]
                    | 7 => simp [cx_up, wM]
                    | 8 => simp [cx_up, wM]
                    | 9 => simp [cx_up, wM]
                    | 10 => simp [cx_up, wM]
                    | 11 => simp [cx_up, wM]
                    | 12 => simp [cx_up, wM]
                    | 13 => simp [cx_up, wM]
                    | 14 => simp [cx_up, wM]
                    | 15 => simp [cx_up, wM]
                    | 16 => simp [cx_up, wM]
                    | 17 => simp [cx_up, wM]
                    | 18 => simp [cx_up, wM]
                    | 19 => simp [cx_up, wM]
                    | 20 => by_cases hz : j = 0 <;> simp [cx_up, wM, cs_u, hz, va_upE, Int.toNat_natCast, hnn, hf]
                    | 21 => by_cases hz : j = 0 <;> simp [cx_up, wM, cs_u, hz, va_upE, Int.toNat_natCast, hnn, hf]
                    | 22 => by_cases hz : j = 0 <;> simp [cx_up, wM, cs_u, hz, va_upE, Int.toNat_natCast, hnn, hf]
                    | 23 => by_cases hz : j = 0 <;> simp [cx_up, wM, cs_u, hz, va_upE, Int.toNat_natCast, hnn, hf]
                    | 24 => by_cases hz : j = 0 <;> simp [cx_up, wM, cs_u, hz, va_upE, Int.toNat_natCast, hnn, hf]
                    | 25 => by_cases hz : j = 0 <;> simp [cx_up, wM, cs_u, hz, va_upE, Int.toNat_natCast, hnn, hf]
                    | 26 => by_cases hz : j = 0 <;> simp [cx_up, wM, cs_u, hz, va_upE, Int.toNat_natCast, hnn, hf]
                    | 27 => by_cases hz : j = 0 <;> simp [cx_up, wM, cs_u, hz, va_upE, Int.toNat_natCast, hnn, hf]
                    | 28 => by_cases hz : j = 0 <;> simp [cx_up, wM, cs_u, hz, va_upE, Int.toNat_natCast, hnn, hf]
                    | 29 => by_cases hz : j = 0 <;> simp [cx_up, wM, cs_u, hz, va_upE, Int.toNat_natCast, hnn, hf]
                    | 30 => by_cases hz : j = 0 <;> simp [cx_up, wM, cs_u, hz, va_upE, Int.toNat_natCast, hnn, hf]
                    | 31 => by_cases hz : j = 0 <;> simp [cx_up, wM, cs_u, hz, va_upE, Int.toNat_natCast, hnn, hf]
                    | 32 => by_cases hz : j = 0 <;> simp [cx_up, wM, cs_u, hz, va_upE, Int.toNat_natCast, hnn, hf]
                    | 33 => by_cases hz : j = 0 <;> simp [cx_up, wM, cs_u, hz, va_upE, Int.toNat_natCast, hnn, hf]
                    | 34 => by_cases hz : j = 0 <;> simp [cx_up, wM, cs_u, hz, va_upE, Int.toNat_natCast, hnn, hf]
                    | 35 => by_cases hz : j = 0 <;> simp [cx_up, wM, cs_u, hz, va_upE, Int.toNat_natCast, hnn, hf]
                    | 36 => by_cases hz : j = 0 <;> simp [cx_up, wM, cs_u, hz, va_upE, Int.toNat_natCast, hnn, hf]
                    | 37 => by_cases hz : j = 0 <;> simp [cx_up, wM, cs_u, hz, va_upE, Int.toNat_natCast, hnn, hf]
                    | 38 => by_cases hz : j = 0 <;> simp [cx_up, wM, cs_u, hz, va_upE, Int.toNat_natCast, hnn, hf]
                    | 39 => by_cases hz : j = 0 <;> simp [cx_up, wM, cs_u, hz, va_upE, Int.toNat_natCast, hnn, hf]
                    | 40 => by_cases hz : j = 0 <;> simp [cx_up, wM, cs_u, hz, va_upE, Int.toNat_natCast, hnn, hf]
                    | k + 41 => simp [cx_up, wM]
                  exact cx_zretM X B hsz hr hlk (Nat.le_of_ble_eq_true rfl) (Nat.le_of_ble_eq_true rfl) (by omega) (by omega) (by rw [jB_t ⟨hQ, by omega⟩]) (hG) dc_M_land_130
                · refine cx_iconst X dc_M_land_81 ?_
                  have hQ : ¬ ((0 ≤ (i : Int) ∧ (i : Int) < S 0 0 0 ∧ 0 ≤ (h : Int) ∧ (h : Int) < S 1 0 0 ∧ S 14 (i : Int).toNat 0 = 1 ∧ 1 ≤ g ∧ g ≤ 1000000000 ∧ 0 ≤ d ∧ d ≤ 99999 ∧ 0 ≤ t ∧ t ≤ 99999 ∧ d ≤ t) ∧ S 2 0 0 < 200) := by (try simp only [cs_nn]); omega
                  have hG : wM u ad S sc = wM u ad (op_land S (i : Int) (h : Int) g d t) sc := by
                    rw [op_land]; by_cases hq : 0 ≤ (i : Int) ∧ (i : Int) < S 0 0 0 ∧ 0 ≤ (h : Int) ∧ (h : Int) < S 1 0 0 ∧ S 14 (i : Int).toNat 0 = 1 ∧ 1 ≤ g ∧ g ≤ 1000000000 ∧ 0 ≤ d ∧ d ≤ 99999 ∧ 0 ≤ t ∧ t ≤ 99999 ∧ d ≤ t
                    · rw [if_pos hq, op_add, if_neg (fun q => hQ ⟨hq, q⟩)]
                    · rw [if_neg hq]
                  exact cx_zretM X B hsz hr hlk (Nat.le_of_ble_eq_true rfl) (Nat.le_of_ble_eq_true rfl) (by omega) (by omega) (congrArg (fun q => some (Value.int (jI q))) (jB_f hQ).symm) (hG) dc_M_land_82
        · refine cx_iconst X dc_M_land_35 ?_
          have hQ : ¬ ((0 ≤ (i : Int) ∧ (i : Int) < S 0 0 0 ∧ 0 ≤ (h : Int) ∧ (h : Int) < S 1 0 0 ∧ S 14 (i : Int).toNat 0 = 1 ∧ 1 ≤ g ∧ g ≤ 1000000000 ∧ 0 ≤ d ∧ d ≤ 99999 ∧ 0 ≤ t ∧ t ≤ 99999 ∧ d ≤ t) ∧ S 2 0 0 < 200) := by (try simp only [cs_nn]); omega
          have hG : wM u ad S sc = wM u ad (op_land S (i : Int) (h : Int) g d t) sc := by
            rw [op_land]; by_cases hq : 0 ≤ (i : Int) ∧ (i : Int) < S 0 0 0 ∧ 0 ≤ (h : Int) ∧ (h : Int) < S 1 0 0 ∧ S 14 (i : Int).toNat 0 = 1 ∧ 1 ≤ g ∧ g ≤ 1000000000 ∧ 0 ≤ d ∧ d ≤ 99999 ∧ 0 ≤ t ∧ t ≤ 99999 ∧ d ≤ t
            · rw [if_pos hq, op_add, if_neg (fun q => hQ ⟨hq, q⟩)]
            · rw [if_neg hq]
          exact cx_zretM X B hsz hr hlk (Nat.le_of_ble_eq_true rfl) (Nat.le_of_ble_eq_true rfl) (by omega) (by omega) (congrArg (fun q => some (Value.int (jI q))) (jB_f hQ).symm) (hG) dc_M_land_36
set_option maxHeartbeats 4000000 in
set_option maxRecDepth 100000 in
theorem c_M_transfer (l : Launch) (u : cx_U) (sz : Nat) (ad : Nat → Nat → Nat) (S : cs_S) (sc : Nat → Nat → Int) (hI : cs_I S) (a b d g : Int) (a1 : -2147483648 ≤ a) (a2 : a ≤ 2147483647) (b1 : -2147483648 ≤ b) (b2 : b ≤ 2147483647) (d1 : -2147483648 ≤ d) (d2 : d ≤ 2147483647) (g1 : -9223372036854775808 ≤ g) (g2 : g ≤ 9223372036854775807) : cx_M l u mn_M_transfer bc_M_transfer 6 (some .int) 2 48 [.ref (ad 20 0), .int (jI (a)), .int (jI (b)), .int (jI (d)), .long (jL (g))] (wM u ad S sc) sz (some (.int (jI (cs_trQ S a b d g)))) (fun w' => w' = wM u ad (op_tr S a b d g) sc) 0 0 := by
  refine cx_M.of (by decide +kernel) (Nat.le_of_ble_eq_true rfl) ?_
  intro p e s m args below meth c ls hsz X hr hlk hin B hl
  have X : CallFix p m c bc_M_transfer 6 s args GW "CatchSharesModel" := X
  have hl : lv_has ls 6 [(0, .ref (ad 20 0)), (1, .int (jI (a))), (2, .int (jI (b))), (3, .int (jI (d))), (4, .long (jL (g)))] := hl
  have hI1 := hI.1
  have hI5 := hI.2.2.2.2.1
  refine lv_aload_n X.1 X.2.1 dc_M_transfer_0 rfl (lv_at hl 0 rfl) ?_
  refine lv_iload_n X.1 X.2.1 dc_M_transfer_1 rfl (lv_at hl 1 rfl) ?_
  refine cx_cVN (r := .int (jI (jB (0 ≤ a ∧ a < S 0 0 0)))) (As := [.int (jI (a))]) (rest := []) X B kc_M_isStock gm_M_97 (c_M_isStock l u ad S sc hI a (by omega) (by omega)) (fun _ _ _ h => h) (wM_20 u ad S sc) rfl rfl ⟨(Nat.le_of_ble_eq_true rfl), (Nat.le_of_ble_eq_true rfl)⟩ ⟨(Nat.le_of_ble_eq_true rfl), (Nat.le_of_ble_eq_true rfl)⟩ rfl hl.1 (Nat.le_of_ble_eq_true rfl) dc_M_transfer_2 rfl ?_
  refine cx_ifeqB (tgt := 50) X dc_M_transfer_5 (by decide) (fun c_1 => ?_) (fun c_1 => ?_)
  · refine cx_iconst X dc_M_transfer_50 ?_
    have hQ : ¬ (0 ≤ a ∧ a < S 0 0 0 ∧ 0 ≤ b ∧ b < S 1 0 0 ∧ 0 ≤ d ∧ d < S 1 0 0 ∧ b ≠ d ∧ S 14 a.toNat 0 = 1 ∧ 1 ≤ g ∧ g ≤ 1000000000) := by (try simp only [cs_nn]); omega
    exact cx_iretM X B hsz hr hlk (Nat.le_of_ble_eq_true rfl) (Nat.le_of_ble_eq_true rfl) (by rw [cs_trQ, if_neg hQ]) (by rw [op_tr, if_neg (fun q => hQ q.1)]) dc_M_transfer_51
  · obtain ⟨i, rfl⟩ : ∃ i : Nat, a = (i : Int) := ⟨a.toNat, by omega⟩
    have hi : (i : Int) < S 0 0 0 := by omega
    refine lv_aload_n X.1 X.2.1 dc_M_transfer_8 rfl (lv_at hl 0 rfl) ?_
    refine lv_iload_n X.1 X.2.1 dc_M_transfer_9 rfl (lv_at hl 2 rfl) ?_
    refine cx_cVN (r := .int (jI (jB (0 ≤ b ∧ b < S 1 0 0)))) (As := [.int (jI (b))]) (rest := []) X B kc_M_isHolder gm_M_100 (c_M_isHolder l u ad S sc hI b (by omega) (by omega)) (fun _ _ _ h => h) (wM_20 u ad S sc) rfl rfl ⟨(Nat.le_of_ble_eq_true rfl), (Nat.le_of_ble_eq_true rfl)⟩ ⟨(Nat.le_of_ble_eq_true rfl), (Nat.le_of_ble_eq_true rfl)⟩ rfl hl.1 (Nat.le_of_ble_eq_true rfl) dc_M_transfer_10 rfl ?_
    refine cx_ifeqB (tgt := 50) X dc_M_transfer_13 (by decide) (fun c_2 => ?_) (fun c_2 => ?_)
    · refine cx_iconst X dc_M_transfer_50 ?_
      have hQ : ¬ (0 ≤ (i : Int) ∧ (i : Int) < S 0 0 0 ∧ 0 ≤ b ∧ b < S 1 0 0 ∧ 0 ≤ d ∧ d < S 1 0 0 ∧ b ≠ d ∧ S 14 (i : Int).toNat 0 = 1 ∧ 1 ≤ g ∧ g ≤ 1000000000) := by (try simp only [cs_nn]); omega
      exact cx_iretM X B hsz hr hlk (Nat.le_of_ble_eq_true rfl) (Nat.le_of_ble_eq_true rfl) (by rw [cs_trQ, if_neg hQ]) (by rw [op_tr, if_neg (fun q => hQ q.1)]) dc_M_transfer_51
    · obtain ⟨h, rfl⟩ : ∃ h : Nat, b = (h : Int) := ⟨b.toNat, by omega⟩
      have hh : (h : Int) < S 1 0 0 := by omega
      refine lv_aload_n X.1 X.2.1 dc_M_transfer_16 rfl (lv_at hl 0 rfl) ?_
      refine lv_iload_n X.1 X.2.1 dc_M_transfer_17 rfl (lv_at hl 3 rfl) ?_
      refine cx_cVN (r := .int (jI (jB (0 ≤ d ∧ d < S 1 0 0)))) (As := [.int (jI (d))]) (rest := []) X B kc_M_isHolder gm_M_100 (c_M_isHolder l u ad S sc hI d (by omega) (by omega)) (fun _ _ _ h => h) (wM_20 u ad S sc) rfl rfl ⟨(Nat.le_of_ble_eq_true rfl), (Nat.le_of_ble_eq_true rfl)⟩ ⟨(Nat.le_of_ble_eq_true rfl), (Nat.le_of_ble_eq_true rfl)⟩ rfl hl.1 (Nat.le_of_ble_eq_true rfl) dc_M_transfer_18 rfl ?_
      refine cx_ifeqB (tgt := 50) X dc_M_transfer_21 (by decide) (fun c_3 => ?_) (fun c_3 => ?_)
      · refine cx_iconst X dc_M_transfer_50 ?_
        have hQ : ¬ (0 ≤ (i : Int) ∧ (i : Int) < S 0 0 0 ∧ 0 ≤ (h : Int) ∧ (h : Int) < S 1 0 0 ∧ 0 ≤ d ∧ d < S 1 0 0 ∧ (h : Int) ≠ d ∧ S 14 (i : Int).toNat 0 = 1 ∧ 1 ≤ g ∧ g ≤ 1000000000) := by (try simp only [cs_nn]); omega
        exact cx_iretM X B hsz hr hlk (Nat.le_of_ble_eq_true rfl) (Nat.le_of_ble_eq_true rfl) (by rw [cs_trQ, if_neg hQ]) (by rw [op_tr, if_neg (fun q => hQ q.1)]) dc_M_transfer_51
      · obtain ⟨k, rfl⟩ : ∃ k : Nat, d = (k : Int) := ⟨d.toNat, by omega⟩
        have hk : (k : Int) < S 1 0 0 := by omega
        refine lv_iload_n X.1 X.2.1 dc_M_transfer_24 rfl (lv_at hl 2 rfl) ?_
        refine lv_iload_n X.1 X.2.1 dc_M_transfer_25 rfl (lv_at hl 3 rfl) ?_
        refine cx_icmp_eq (tgt := 50) X (by omega) (by omega) (by omega) (by omega) dc_M_transfer_26 (by decide) (fun c_4 => ?_) (fun c_4 => ?_)
        · refine cx_iconst X dc_M_transfer_50 ?_
          have hQ : ¬ (0 ≤ (i : Int) ∧ (i : Int) < S 0 0 0 ∧ 0 ≤ (h : Int) ∧ (h : Int) < S 1 0 0 ∧ 0 ≤ (k : Int) ∧ (k : Int) < S 1 0 0 ∧ (h : Int) ≠ (k : Int) ∧ S 14 (i : Int).toNat 0 = 1 ∧ 1 ≤ g ∧ g ≤ 1000000000) := by (try simp only [cs_nn]); omega
          exact cx_iretM X B hsz hr hlk (Nat.le_of_ble_eq_true rfl) (Nat.le_of_ble_eq_true rfl) (by rw [cs_trQ, if_neg hQ]) (by rw [op_tr, if_neg (fun q => hQ q.1)]) dc_M_transfer_51
        · refine lv_aload_n X.1 X.2.1 dc_M_transfer_29 rfl (lv_at hl 0 rfl) ?_
          refine cx_get (v := .ref (ad 24 0)) X B (wM_20 u ad S sc) rfl uw_M 4 (by decide) gf_M_20 rfl dc_M_transfer_30 ?_
          refine lv_iload_n X.1 X.2.1 dc_M_transfer_33 rfl (lv_at hl 1 rfl) ?_
          refine cx_zald X B (wM_24 u ad S sc) (i) (by omega) (by omega) (by decide) dc_M_transfer_34 ?_
          have r_5 := hI5 i
          refine cx_if_eq (tgt := 50) X (by omega) (by omega) dc_M_transfer_35 (by decide) (fun c_6 => ?_) (fun c_6 => ?_)
          · refine cx_iconst X dc_M_transfer_50 ?_
            have hQ : ¬ (0 ≤ (i : Int) ∧ (i : Int) < S 0 0 0 ∧ 0 ≤ (h : Int) ∧ (h : Int) < S 1 0 0 ∧ 0 ≤ (k : Int) ∧ (k : Int) < S 1 0 0 ∧ (h : Int) ≠ (k : Int) ∧ S 14 (i : Int).toNat 0 = 1 ∧ 1 ≤ g ∧ g ≤ 1000000000) := by (try simp only [cs_nn]); omega
            exact cx_iretM X B hsz hr hlk (Nat.le_of_ble_eq_true rfl) (Nat.le_of_ble_eq_true rfl) (by rw [cs_trQ, if_neg hQ]) (by rw [op_tr, if_neg (fun q => hQ q.1)]) dc_M_transfer_51
          · refine lv_lload X.1 X.2.1 dc_M_transfer_38 (lv_at hl 4 rfl) ?_
            refine cx_lconst (a := 1) X dc_M_transfer_40 (by decide +kernel) ?_
            refine cx_ldc2 (a := 1000000000) X gk_M_91 (by decide +kernel) dc_M_transfer_41 ?_
            refine cx_cSN (r := .int (jI (jB (1 ≤ g ∧ g ≤ 1000000000)))) (As := [.long (jL (g)), .long (jL (1)), .long (jL (1000000000))]) (rest := []) X B kc_M_in gm_M_82 (c_M_in l u _ g 1 1000000000 (by omega) (by omega) (by omega) (by omega) (by omega) (by omega)) (fun _ _ _ h => h) ⟨(Nat.le_of_ble_eq_true rfl), (Nat.le_of_ble_eq_true rfl)⟩ ⟨(Nat.le_of_ble_eq_true rfl), (Nat.le_of_ble_eq_true rfl)⟩ rfl hl.1 (Nat.le_of_ble_eq_true rfl) dc_M_transfer_44 rfl ?_
            refine cx_ifneB (tgt := 52) X dc_M_transfer_47 (by decide) (fun c_7 => ?_) (fun c_7 => ?_)
            · refine lv_aload_n X.1 X.2.1 dc_M_transfer_52 rfl (lv_at hl 0 rfl) ?_
              refine lv_iload_n X.1 X.2.1 dc_M_transfer_53 rfl (lv_at hl 1 rfl) ?_
              refine lv_iload_n X.1 X.2.1 dc_M_transfer_54 rfl (lv_at hl 2 rfl) ?_
              refine cx_cVN (r := .long (jL (cs_lf S i h))) (As := [.int (jI ((i : Int))), .int (jI ((h : Int)))]) (rest := []) X B kc_M_leftOf gm_M_125 (c_M_leftOf l u ad S sc hI i h hi (by omega)) (fun _ _ _ h => h) (wM_20 u ad S sc) rfl rfl ⟨(Nat.le_of_ble_eq_true rfl), (Nat.le_of_ble_eq_true rfl)⟩ ⟨(Nat.le_of_ble_eq_true rfl), (Nat.le_of_ble_eq_true rfl)⟩ rfl hl.1 (Nat.le_of_ble_eq_true rfl) dc_M_transfer_55 rfl ?_
              have r_8 := cs_lf_b hI i h
              refine lv_lload X.1 X.2.1 dc_M_transfer_58 (lv_at hl 4 rfl) ?_
              refine cx_lcmp_ge (tgt := 66) X (by omega) (by omega) (by omega) (by omega) dc_M_transfer_60 dc_M_transfer_61 (by decide) (fun c_9 => ?_) (fun c_9 => ?_)
              · refine lv_aload_n X.1 X.2.1 dc_M_transfer_66 rfl (lv_at hl 0 rfl) ?_
                refine cx_get (v := .ref (ad 32 0)) X B (wM_20 u ad S sc) rfl uw_M 13 (by decide) gf_M_45 rfl dc_M_transfer_67 ?_
                refine cx_bipush X dc_M_transfer_70 (by decide +kernel) ?_
                refine lv_iload_n X.1 X.2.1 dc_M_transfer_72 rfl (lv_at hl 1 rfl) ?_
                refine cx_imul X dc_M_transfer_73 ?_
                refine lv_iload_n X.1 X.2.1 dc_M_transfer_74 rfl (lv_at hl 2 rfl) ?_
                refine cx_iadd X dc_M_transfer_75 ?_
                refine lv_aload_n X.1 X.2.1 dc_M_transfer_76 rfl (lv_at hl 0 rfl) ?_
                refine cx_get (v := .ref (ad 32 0)) X B (wM_20 u ad S sc) rfl uw_M 13 (by decide) gf_M_45 rfl dc_M_transfer_77 ?_
                refine cx_bipush X dc_M_transfer_80 (by decide +kernel) ?_
                refine lv_iload_n X.1 X.2.1 dc_M_transfer_82 rfl (lv_at hl 1 rfl) ?_
                refine cx_imul X dc_M_transfer_83 ?_
                refine lv_iload_n X.1 X.2.1 dc_M_transfer_84 rfl (lv_at hl 2 rfl) ?_
                refine cx_iadd X dc_M_transfer_85 ?_
                refine cx_lald X B (wM_32 u ad S sc) ((12 * i) + h) (by omega) (by omega) (by decide) dc_M_transfer_86 ?_
                rw [show ((12 * i) + h) / 12 = i by omega, show ((12 * i) + h) % 12 = h by omega]
                refine lv_lload X.1 X.2.1 dc_M_transfer_87 (lv_at hl 4 rfl) ?_
                refine cx_lsub X dc_M_transfer_89 ?_
                refine cx_last X B (wM_32 u ad S sc) ((12 * i) + h) (by omega) (by omega) (by decide) dc_M_transfer_90 (fun H locs B => ?_)
                have B : cx_B u (cx_A (wM u ad S sc) sz) (cx_up (wM u ad S sc) 32 0 (ad 32 0, .inl (u.2 1, 96, .inr (.inl (fun z_ => jL (va_up (fun z_ => S 21 (z_ / 12) (z_ % 12)) ((12 * i) + h) ((S 21 i h) - g) z_)))))) s H locs := B
                have hne : k ≠ h := by omega
                have B : cx_B u (cx_A (wM u ad S sc) sz) (wM u ad (cs_u (S) 21 i h (S 21 i h - g)) sc) s H locs := by rw [← wM_f21 u ad _ sc (by omega)]; exact B
                refine lv_aload_n X.1 X.2.1 dc_M_transfer_91 rfl (lv_at hl 0 rfl) ?_
                refine cx_get (v := .ref (ad 32 0)) X B (wM_20 u ad (cs_u (S) 21 i h (S 21 i h - g)) sc) rfl uw_M 13 (by decide) gf_M_45 rfl dc_M_transfer_92 ?_
                refine cx_bipush X dc_M_transfer_95 (by decide +kernel) ?_
                refine lv_iload_n X.1 X.2.1 dc_M_transfer_97 rfl (lv_at hl 1 rfl) ?_
                refine cx_imul X dc_M_transfer_98 ?_
                refine lv_iload_n X.1 X.2.1 dc_M_transfer_99 rfl (lv_at hl 3 rfl) ?_
                refine cx_iadd X dc_M_transfer_100 ?_
                refine lv_aload_n X.1 X.2.1 dc_M_transfer_101 rfl (lv_at hl 0 rfl) ?_
                refine cx_get (v := .ref (ad 32 0)) X B (wM_20 u ad (cs_u (S) 21 i h (S 21 i h - g)) sc) rfl uw_M 13 (by decide) gf_M_45 rfl dc_M_transfer_102 ?_
                refine cx_bipush X dc_M_transfer_105 (by decide +kernel) ?_
                refine lv_iload_n X.1 X.2.1 dc_M_transfer_107 rfl (lv_at hl 1 rfl) ?_
                refine cx_imul X dc_M_transfer_108 ?_
                refine lv_iload_n X.1 X.2.1 dc_M_transfer_109 rfl (lv_at hl 3 rfl) ?_
                refine cx_iadd X dc_M_transfer_110 ?_
                refine cx_lald X B (wM_32 u ad (cs_u (S) 21 i h (S 21 i h - g)) sc) ((12 * i) + k) (by omega) (by omega) (by decide) dc_M_transfer_111 ?_
                rw [show ((12 * i) + k) / 12 = i by omega, show ((12 * i) + k) % 12 = k by omega]
                rw [show (cs_u (S) 21 i h (S 21 i h - g)) 21 i k = S 21 i k by simp [cs_u, hne]]
                refine lv_lload X.1 X.2.1 dc_M_transfer_112 (lv_at hl 4 rfl) ?_
                refine cx_ladd X dc_M_transfer_114 ?_
                refine cx_last X B (wM_32 u ad (cs_u (S) 21 i h (S 21 i h - g)) sc) ((12 * i) + k) (by omega) (by omega) (by decide) dc_M_transfer_115 (fun H locs B => ?_)
                have B : cx_B u (cx_A (wM u ad S sc) sz) (cx_up (wM u ad (cs_u (S) 21 i h (S 21 i h - g)) sc) 32 0 (ad 32 0, .inl (u.2 1, 96, .inr (.inl (fun z_ => jL (va_up (fun z_ => (cs_u (S) 21 i h (S 21 i h - g)) 21 (z_ / 12) (z_ % 12)) ((12 * i) + k) ((S 21 i k) + g) z_)))))) s H locs := B
                refine cx_iconst X dc_M_transfer_116 ?_
                have hQ : 0 ≤ (i : Int) ∧ (i : Int) < S 0 0 0 ∧ 0 ≤ (h : Int) ∧ (h : Int) < S 1 0 0 ∧ 0 ≤ (k : Int) ∧ (k : Int) < S 1 0 0 ∧ (h : Int) ≠ (k : Int) ∧ S 14 (i : Int).toNat 0 = 1 ∧ 1 ≤ g ∧ g ≤ 1000000000 := by (try simp only [cs_nn]); omega
                have hG : cx_up (wM u ad (cs_u (S) 21 i h (S 21 i h - g)) sc) 32 0 (ad 32 0, .inl (u.2 1, 96, .inr (.inl (fun z_ => jL (va_up (fun z_ => (cs_u (S) 21 i h (S 21 i h - g)) 21 (z_ / 12) (z_ % 12)) ((12 * i) + k) ((S 21 i k) + g) z_))))) = wM u ad (op_tr S (i : Int) (h : Int) (k : Int) g) sc := by
                  rw [op_tr, if_pos ⟨hQ, by simp only [cs_nn]; omega⟩]
                  exact wM_f21 u ad _ sc (by omega) _
                exact cx_iretM X B hsz hr hlk (Nat.le_of_ble_eq_true rfl) (Nat.le_of_ble_eq_true rfl) (by rw [cs_trQ, if_pos hQ, cs_nn, cs_nn, if_neg (by omega)]) (hG) dc_M_transfer_117
              · refine cx_iconst X dc_M_transfer_64 ?_
                have hQ : 0 ≤ (i : Int) ∧ (i : Int) < S 0 0 0 ∧ 0 ≤ (h : Int) ∧ (h : Int) < S 1 0 0 ∧ 0 ≤ (k : Int) ∧ (k : Int) < S 1 0 0 ∧ (h : Int) ≠ (k : Int) ∧ S 14 (i : Int).toNat 0 = 1 ∧ 1 ≤ g ∧ g ≤ 1000000000 := by (try simp only [cs_nn]); omega
                exact cx_iretM X B hsz hr hlk (Nat.le_of_ble_eq_true rfl) (Nat.le_of_ble_eq_true rfl) (by rw [cs_trQ, if_pos hQ, cs_nn, cs_nn, if_pos (by omega)]) (by rw [op_tr, if_neg (fun q => by have q1 := q.2; simp only [cs_nn] at q1; omega)]) dc_M_transfer_65
            · refine cx_iconst X dc_M_transfer_50 ?_
              have hQ : ¬ (0 ≤ (i : Int) ∧ (i : Int) < S 0 0 0 ∧ 0 ≤ (h : Int) ∧ (h : Int) < S 1 0 0 ∧ 0 ≤ (k : Int) ∧ (k : Int) < S 1 0 0 ∧ (h : Int) ≠ (k : Int) ∧ S 14 (i : Int).toNat 0 = 1 ∧ 1 ≤ g ∧ g ≤ 1000000000) := by (try simp only [cs_nn]); omega
              exact cx_iretM X B hsz hr hlk (Nat.le_of_ble_eq_true rfl) (Nat.le_of_ble_eq_true rfl) (by rw [cs_trQ, if_neg hQ]) (by rw [op_tr, if_neg (fun q => hQ q.1)]) dc_M_transfer_51
set_option maxHeartbeats 4000000 in
set_option maxRecDepth 100000 in
theorem c_M_swap (l : Launch) (u : cx_U) (sz : Nat) (ad : Nat → Nat → Nat) (S : cs_S) (sc : Nat → Nat → Int) (hI : cs_I S) (hY : cs_Y S) (a b x y d g : Int) (a1 : -2147483648 ≤ a) (a2 : a ≤ 2147483647) (b1 : -2147483648 ≤ b) (b2 : b ≤ 2147483647) (x1 : -2147483648 ≤ x) (x2 : x ≤ 2147483647) (y1 : -2147483648 ≤ y) (y2 : y ≤ 2147483647) (d1 : -2147483648 ≤ d) (d2 : d ≤ 2147483647) (g1 : -9223372036854775808 ≤ g) (g2 : g ≤ 9223372036854775807) : cx_M l u mn_M_swap bc_M_swap 10 (some .int) 2 48 [.ref (ad 20 0), .int (jI (a)), .int (jI (b)), .int (jI (x)), .int (jI (y)), .int (jI (d)), .long (jL (g))] (wM u ad S sc) sz (some (.int (jI (cs_swQ S a b x y d g)))) (fun w' => w' = wM u ad (op_sw S a b x y d g) sc) 0 0 := by
  refine cx_M.of (by decide +kernel) (Nat.le_of_ble_eq_true rfl) ?_
  intro p e s m args below meth c ls hsz X hr hlk hin B hl
  have X : CallFix p m c bc_M_swap 10 s args GW "CatchSharesModel" := X
  have hl : lv_has ls 10 [(0, .ref (ad 20 0)), (1, .int (jI (a))), (2, .int (jI (b))), (3, .int (jI (x))), (4, .int (jI (y))), (5, .int (jI (d))), (6, .long (jL (g)))] := hl
  have hI1 := hI.1
  have hI5 := hI.2.2.2.2.1
  refine lv_aload_n X.1 X.2.1 dc_M_swap_0 rfl (lv_at hl 0 rfl) ?_
  refine lv_iload_n X.1 X.2.1 dc_M_swap_1 rfl (lv_at hl 1 rfl) ?_
  refine cx_cVN (r := .int (jI (jB (0 ≤ a ∧ a < S 0 0 0)))) (As := [.int (jI (a))]) (rest := []) X B kc_M_isStock gm_M_97 (c_M_isStock l u ad S sc hI a (by omega) (by omega)) (fun _ _ _ h => h) (wM_20 u ad S sc) rfl rfl ⟨(Nat.le_of_ble_eq_true rfl), (Nat.le_of_ble_eq_true rfl)⟩ ⟨(Nat.le_of_ble_eq_true rfl), (Nat.le_of_ble_eq_true rfl)⟩ rfl hl.1 (Nat.le_of_ble_eq_true rfl) dc_M_swap_2 rfl ?_
  refine cx_ifeqB (tgt := 48) X dc_M_swap_5 (by decide) (fun c_1 => ?_) (fun c_1 => ?_)
  · refine cx_iconst X dc_M_swap_48 ?_
    have hQ : ¬ (0 ≤ a ∧ a < S 0 0 0 ∧ 0 ≤ b ∧ b < S 0 0 0 ∧ 0 ≤ d ∧ d < S 1 0 0 ∧ a ≠ b ∧ S 14 a.toNat 0 = 1 ∧ S 14 b.toNat 0 = 1 ∧ 1 ≤ x ∧ x ≤ 1000 ∧ 1 ≤ y ∧ y ≤ 1000 ∧ 1 ≤ g ∧ g ≤ 1000000000) := by (try simp only [cs_nn]); omega
    exact cx_iretM X B hsz hr hlk (Nat.le_of_ble_eq_true rfl) (Nat.le_of_ble_eq_true rfl) (by rw [cs_swQ, if_neg hQ]) (by rw [op_sw, if_neg (fun q => hQ q.1)]) dc_M_swap_49
  · obtain ⟨i, rfl⟩ : ∃ i : Nat, a = (i : Int) := ⟨a.toNat, by omega⟩
    have hi : (i : Int) < S 0 0 0 := by omega
    refine lv_aload_n X.1 X.2.1 dc_M_swap_8 rfl (lv_at hl 0 rfl) ?_
    refine lv_iload_n X.1 X.2.1 dc_M_swap_9 rfl (lv_at hl 2 rfl) ?_
    refine cx_cVN (r := .int (jI (jB (0 ≤ b ∧ b < S 0 0 0)))) (As := [.int (jI (b))]) (rest := []) X B kc_M_isStock gm_M_97 (c_M_isStock l u ad S sc hI b (by omega) (by omega)) (fun _ _ _ h => h) (wM_20 u ad S sc) rfl rfl ⟨(Nat.le_of_ble_eq_true rfl), (Nat.le_of_ble_eq_true rfl)⟩ ⟨(Nat.le_of_ble_eq_true rfl), (Nat.le_of_ble_eq_true rfl)⟩ rfl hl.1 (Nat.le_of_ble_eq_true rfl) dc_M_swap_10 rfl ?_
    refine cx_ifeqB (tgt := 48) X dc_M_swap_13 (by decide) (fun c_2 => ?_) (fun c_2 => ?_)
    · refine cx_iconst X dc_M_swap_48 ?_
      have hQ : ¬ (0 ≤ (i : Int) ∧ (i : Int) < S 0 0 0 ∧ 0 ≤ b ∧ b < S 0 0 0 ∧ 0 ≤ d ∧ d < S 1 0 0 ∧ (i : Int) ≠ b ∧ S 14 (i : Int).toNat 0 = 1 ∧ S 14 b.toNat 0 = 1 ∧ 1 ≤ x ∧ x ≤ 1000 ∧ 1 ≤ y ∧ y ≤ 1000 ∧ 1 ≤ g ∧ g ≤ 1000000000) := by (try simp only [cs_nn]); omega
      exact cx_iretM X B hsz hr hlk (Nat.le_of_ble_eq_true rfl) (Nat.le_of_ble_eq_true rfl) (by rw [cs_swQ, if_neg hQ]) (by rw [op_sw, if_neg (fun q => hQ q.1)]) dc_M_swap_49
    · obtain ⟨k, rfl⟩ : ∃ k : Nat, b = (k : Int) := ⟨b.toNat, by omega⟩
      have hk : (k : Int) < S 0 0 0 := by omega
      refine lv_aload_n X.1 X.2.1 dc_M_swap_16 rfl (lv_at hl 0 rfl) ?_
      refine lv_iload X.1 X.2.1 dc_M_swap_17 (lv_at hl 5 rfl) ?_
      refine cx_cVN (r := .int (jI (jB (0 ≤ d ∧ d < S 1 0 0)))) (As := [.int (jI (d))]) (rest := []) X B kc_M_isHolder gm_M_100 (c_M_isHolder l u ad S sc hI d (by omega) (by omega)) (fun _ _ _ h => h) (wM_20 u ad S sc) rfl rfl ⟨(Nat.le_of_ble_eq_true rfl), (Nat.le_of_ble_eq_true rfl)⟩ ⟨(Nat.le_of_ble_eq_true rfl), (Nat.le_of_ble_eq_true rfl)⟩ rfl hl.1 (Nat.le_of_ble_eq_true rfl) dc_M_swap_19 rfl ?_
      refine cx_ifeqB (tgt := 48) X dc_M_swap_22 (by decide) (fun c_3 => ?_) (fun c_3 => ?_)
      · refine cx_iconst X dc_M_swap_48 ?_
        have hQ : ¬ (0 ≤ (i : Int) ∧ (i : Int) < S 0 0 0 ∧ 0 ≤ (k : Int) ∧ (k : Int) < S 0 0 0 ∧ 0 ≤ d ∧ d < S 1 0 0 ∧ (i : Int) ≠ (k : Int) ∧ S 14 (i : Int).toNat 0 = 1 ∧ S 14 (k : Int).toNat 0 = 1 ∧ 1 ≤ x ∧ x ≤ 1000 ∧ 1 ≤ y ∧ y ≤ 1000 ∧ 1 ≤ g ∧ g ≤ 1000000000) := by (try simp only [cs_nn]); omega
        exact cx_iretM X B hsz hr hlk (Nat.le_of_ble_eq_true rfl) (Nat.le_of_ble_eq_true rfl) (by rw [cs_swQ, if_neg hQ]) (by rw [op_sw, if_neg (fun q => hQ q.1)]) dc_M_swap_49
      · obtain ⟨h, rfl⟩ : ∃ h : Nat, d = (h : Int) := ⟨d.toNat, by omega⟩
        have hh : (h : Int) < S 1 0 0 := by omega
        refine lv_iload_n X.1 X.2.1 dc_M_swap_25 rfl (lv_at hl 1 rfl) ?_
        refine lv_iload_n X.1 X.2.1 dc_M_swap_26 rfl (lv_at hl 2 rfl) ?_
        refine cx_icmp_eq (tgt := 48) X (by omega) (by omega) (by omega) (by omega) dc_M_swap_27 (by decide) (fun c_4 => ?_) (fun c_4 => ?_)
        · refine cx_iconst X dc_M_swap_48 ?_
          have hQ : ¬ (0 ≤ (i : Int) ∧ (i : Int) < S 0 0 0 ∧ 0 ≤ (k : Int) ∧ (k : Int) < S 0 0 0 ∧ 0 ≤ (h : Int) ∧ (h : Int) < S 1 0 0 ∧ (i : Int) ≠ (k : Int) ∧ S 14 (i : Int).toNat 0 = 1 ∧ S 14 (k : Int).toNat 0 = 1 ∧ 1 ≤ x ∧ x ≤ 1000 ∧ 1 ≤ y ∧ y ≤ 1000 ∧ 1 ≤ g ∧ g ≤ 1000000000) := by (try simp only [cs_nn]); omega
          exact cx_iretM X B hsz hr hlk (Nat.le_of_ble_eq_true rfl) (Nat.le_of_ble_eq_true rfl) (by rw [cs_swQ, if_neg hQ]) (by rw [op_sw, if_neg (fun q => hQ q.1)]) dc_M_swap_49
        · refine lv_aload_n X.1 X.2.1 dc_M_swap_30 rfl (lv_at hl 0 rfl) ?_
          refine cx_get (v := .ref (ad 24 0)) X B (wM_20 u ad S sc) rfl uw_M 4 (by decide) gf_M_20 rfl dc_M_swap_31 ?_
          refine lv_iload_n X.1 X.2.1 dc_M_swap_34 rfl (lv_at hl 1 rfl) ?_
          refine cx_zald X B (wM_24 u ad S sc) (i) (by omega) (by omega) (by decide) dc_M_swap_35 ?_
          have r_5 := hI5 i
          refine cx_if_eq (tgt := 48) X (by omega) (by omega) dc_M_swap_36 (by decide) (fun c_6 => ?_) (fun c_6 => ?_)
          · refine cx_iconst X dc_M_swap_48 ?_
            have hQ : ¬ (0 ≤ (i : Int) ∧ (i : Int) < S 0 0 0 ∧ 0 ≤ (k : Int) ∧ (k : Int) < S 0 0 0 ∧ 0 ≤ (h : Int) ∧ (h : Int) < S 1 0 0 ∧ (i : Int) ≠ (k : Int) ∧ S 14 (i : Int).toNat 0 = 1 ∧ S 14 (k : Int).toNat 0 = 1 ∧ 1 ≤ x ∧ x ≤ 1000 ∧ 1 ≤ y ∧ y ≤ 1000 ∧ 1 ≤ g ∧ g ≤ 1000000000) := by (try simp only [cs_nn]); omega
            exact cx_iretM X B hsz hr hlk (Nat.le_of_ble_eq_true rfl) (Nat.le_of_ble_eq_true rfl) (by rw [cs_swQ, if_neg hQ]) (by rw [op_sw, if_neg (fun q => hQ q.1)]) dc_M_swap_49
          · refine lv_aload_n X.1 X.2.1 dc_M_swap_39 rfl (lv_at hl 0 rfl) ?_
            refine cx_get (v := .ref (ad 24 0)) X B (wM_20 u ad S sc) rfl uw_M 4 (by decide) gf_M_20 rfl dc_M_swap_40 ?_
            refine lv_iload_n X.1 X.2.1 dc_M_swap_43 rfl (lv_at hl 2 rfl) ?_
            refine cx_zald X B (wM_24 u ad S sc) (k) (by omega) (by omega) (by decide) dc_M_swap_44 ?_
            have r_7 := hI5 k
            refine cx_if_ne (tgt := 50) X (by omega) (by omega) dc_M_swap_45 (by decide) (fun c_8 => ?_) (fun c_8 => ?_)
            · refine lv_iload_n X.1 X.2.1 dc_M_swap_50 rfl (lv_at hl 3 rfl) ?_
              refine cx_i2l X (by omega) (by omega) dc_M_swap_51 ?_
              refine cx_lconst (a := 1) X dc_M_swap_52 (by decide +kernel) ?_
              refine cx_ldc2 (a := 1000) X gk_M_133 (by decide +kernel) dc_M_swap_53 ?_
              refine cx_cSN (r := .int (jI (jB (1 ≤ x ∧ x ≤ 1000)))) (As := [.long (jL (x)), .long (jL (1)), .long (jL (1000))]) (rest := []) X B kc_M_in gm_M_82 (c_M_in l u _ x 1 1000 (by omega) (by omega) (by omega) (by omega) (by omega) (by omega)) (fun _ _ _ h => h) ⟨(Nat.le_of_ble_eq_true rfl), (Nat.le_of_ble_eq_true rfl)⟩ ⟨(Nat.le_of_ble_eq_true rfl), (Nat.le_of_ble_eq_true rfl)⟩ rfl hl.1 (Nat.le_of_ble_eq_true rfl) dc_M_swap_56 rfl ?_
              refine cx_ifeqB (tgt := 87) X dc_M_swap_59 (by decide) (fun c_9 => ?_) (fun c_9 => ?_)
              · refine cx_iconst X dc_M_swap_87 ?_
                have hQ : ¬ (0 ≤ (i : Int) ∧ (i : Int) < S 0 0 0 ∧ 0 ≤ (k : Int) ∧ (k : Int) < S 0 0 0 ∧ 0 ≤ (h : Int) ∧ (h : Int) < S 1 0 0 ∧ (i : Int) ≠ (k : Int) ∧ S 14 (i : Int).toNat 0 = 1 ∧ S 14 (k : Int).toNat 0 = 1 ∧ 1 ≤ x ∧ x ≤ 1000 ∧ 1 ≤ y ∧ y ≤ 1000 ∧ 1 ≤ g ∧ g ≤ 1000000000) := by (try simp only [cs_nn]); omega
                exact cx_iretM X B hsz hr hlk (Nat.le_of_ble_eq_true rfl) (Nat.le_of_ble_eq_true rfl) (by rw [cs_swQ, if_neg hQ]) (by rw [op_sw, if_neg (fun q => hQ q.1)]) dc_M_swap_88
              · refine lv_iload X.1 X.2.1 dc_M_swap_62 (lv_at hl 4 rfl) ?_
                refine cx_i2l X (by omega) (by omega) dc_M_swap_64 ?_
                refine cx_lconst (a := 1) X dc_M_swap_65 (by decide +kernel) ?_
                refine cx_ldc2 (a := 1000) X gk_M_133 (by decide +kernel) dc_M_swap_66 ?_
                refine cx_cSN (r := .int (jI (jB (1 ≤ y ∧ y ≤ 1000)))) (As := [.long (jL (y)), .long (jL (1)), .long (jL (1000))]) (rest := []) X B kc_M_in gm_M_82 (c_M_in l u _ y 1 1000 (by omega) (by omega) (by omega) (by omega) (by omega) (by omega)) (fun _ _ _ h => h) ⟨(Nat.le_of_ble_eq_true rfl), (Nat.le_of_ble_eq_true rfl)⟩ ⟨(Nat.le_of_ble_eq_true rfl), (Nat.le_of_ble_eq_true rfl)⟩ rfl hl.1 (Nat.le_of_ble_eq_true rfl) dc_M_swap_69 rfl ?_
                refine cx_ifeqB (tgt := 87) X dc_M_swap_72 (by decide) (fun c_10 => ?_) (fun c_10 => ?_)
                · refine cx_iconst X dc_M_swap_87 ?_
                  have hQ : ¬ (0 ≤ (i : Int) ∧ (i : Int) < S 0 0 0 ∧ 0 ≤ (k : Int) ∧ (k : Int) < S 0 0 0 ∧ 0 ≤ (h : Int) ∧ (h : Int) < S 1 0 0 ∧ (i : Int) ≠ (k : Int) ∧ S 14 (i : Int).toNat 0 = 1 ∧ S 14 (k : Int).toNat 0 = 1 ∧ 1 ≤ x ∧ x ≤ 1000 ∧ 1 ≤ y ∧ y ≤ 1000 ∧ 1 ≤ g ∧ g ≤ 1000000000) := by (try simp only [cs_nn]); omega
                  exact cx_iretM X B hsz hr hlk (Nat.le_of_ble_eq_true rfl) (Nat.le_of_ble_eq_true rfl) (by rw [cs_swQ, if_neg hQ]) (by rw [op_sw, if_neg (fun q => hQ q.1)]) dc_M_swap_88
                · refine lv_lload X.1 X.2.1 dc_M_swap_75 (lv_at hl 6 rfl) ?_
                  refine cx_lconst (a := 1) X dc_M_swap_77 (by decide +kernel) ?_
                  refine cx_ldc2 (a := 1000000000) X gk_M_91 (by decide +kernel) dc_M_swap_78 ?_
                  refine cx_cSN (r := .int (jI (jB (1 ≤ g ∧ g ≤ 1000000000)))) (As := [.long (jL (g)), .long (jL (1)), .long (jL (1000000000))]) (rest := []) X B kc_M_in gm_M_82 (c_M_in l u _ g 1 1000000000 (by omega) (by omega) (by omega) (by omega) (by omega) (by omega)) (fun _ _ _ h => h) ⟨(Nat.le_of_ble_eq_true rfl), (Nat.le_of_ble_eq_true rfl)⟩ ⟨(Nat.le_of_ble_eq_true rfl), (Nat.le_of_ble_eq_true rfl)⟩ rfl hl.1 (Nat.le_of_ble_eq_true rfl) dc_M_swap_81 rfl ?_
                  refine cx_ifneB (tgt := 89) X dc_M_swap_84 (by decide) (fun c_11 => ?_) (fun c_11 => ?_)
                  · refine lv_aload_n X.1 X.2.1 dc_M_swap_89 rfl (lv_at hl 0 rfl) ?_
                    refine lv_iload_n X.1 X.2.1 dc_M_swap_90 rfl (lv_at hl 1 rfl) ?_
                    refine lv_iload X.1 X.2.1 dc_M_swap_91 (lv_at hl 5 rfl) ?_
                    refine cx_cVN (r := .long (jL (cs_lf S i h))) (As := [.int (jI ((i : Int))), .int (jI ((h : Int)))]) (rest := []) X B kc_M_leftOf gm_M_125 (c_M_leftOf l u ad S sc hI i h hi (by omega)) (fun _ _ _ h => h) (wM_20 u ad S sc) rfl rfl ⟨(Nat.le_of_ble_eq_true rfl), (Nat.le_of_ble_eq_true rfl)⟩ ⟨(Nat.le_of_ble_eq_true rfl), (Nat.le_of_ble_eq_true rfl)⟩ rfl hl.1 (Nat.le_of_ble_eq_true rfl) dc_M_swap_93 rfl ?_
                    have r_12 := cs_lf_b hI i h
                    refine lv_lload X.1 X.2.1 dc_M_swap_96 (lv_at hl 6 rfl) ?_
                    refine cx_lcmp_ge (tgt := 104) X (by omega) (by omega) (by omega) (by omega) dc_M_swap_98 dc_M_swap_99 (by decide) (fun c_13 => ?_) (fun c_13 => ?_)
                    · refine lv_lload X.1 X.2.1 dc_M_swap_104 (lv_at hl 6 rfl) ?_
                      refine lv_iload_n X.1 X.2.1 dc_M_swap_106 rfl (lv_at hl 3 rfl) ?_
                      refine cx_i2l X (by omega) (by omega) dc_M_swap_107 ?_
                      have hgx := cs_gx (g := g) (x := x) (y := y) (by omega) (by omega) (by omega) (by omega) (by omega) (by omega)
                      have hgy : (g * x) % y = 0 → y ≤ g * x := fun q => by
                        have q1 := Int.mul_ediv_add_emod (g * x) y
                        rw [q, Int.add_zero] at q1
                        rcases Int.lt_or_le 0 ((g * x) / y) with q2 | q2
                        · have q3 := Int.mul_le_mul_of_nonneg_left (show 1 ≤ (g * x) / y by omega) (show 0 ≤ y by omega)
                          omega
                        · rw [show (g * x) / y = 0 by omega] at q1; omega
                      refine cx_lmul X dc_M_swap_108 ?_
                      refine lv_lstore (lv' := [(8, .long (jL (g * x))), (0, .ref (ad 20 0)), (1, .int (jI ((i : Int)))), (2, .int (jI ((k : Int)))), (3, .int (jI (x))), (4, .int (jI (y))), (5, .int (jI ((h : Int)))), (6, .long (jL (g)))]) X.1 X.2.1 dc_M_swap_109 hl (by decide) rfl (fun ls hl => ?_)
                      refine lv_lload X.1 X.2.1 dc_M_swap_111 (lv_at hl 0 rfl) ?_
                      refine lv_iload X.1 X.2.1 dc_M_swap_113 (lv_at hl 5 rfl) ?_
                      refine cx_i2l X (by omega) (by omega) dc_M_swap_115 ?_
                      refine cx_lrem X (by omega) (by omega) (by omega) (by omega) dc_M_swap_116 ?_
                      refine cx_lconst (a := 0) X dc_M_swap_117 (by decide +kernel) ?_
                      refine cx_lcmp_ne (tgt := 150) X (by omega) (by omega) (by omega) (by omega) dc_M_swap_118 dc_M_swap_119 (by decide) (fun c_14 => ?_) (fun c_14 => ?_)
                      · refine cx_iconst X dc_M_swap_150 ?_
                        have hQ : 0 ≤ (i : Int) ∧ (i : Int) < S 0 0 0 ∧ 0 ≤ (k : Int) ∧ (k : Int) < S 0 0 0 ∧ 0 ≤ (h : Int) ∧ (h : Int) < S 1 0 0 ∧ (i : Int) ≠ (k : Int) ∧ S 14 (i : Int).toNat 0 = 1 ∧ S 14 (k : Int).toNat 0 = 1 ∧ 1 ≤ x ∧ x ≤ 1000 ∧ 1 ≤ y ∧ y ≤ 1000 ∧ 1 ≤ g ∧ g ≤ 1000000000 := by (try simp only [cs_nn]); omega
                        exact cx_iretM X B hsz hr hlk (Nat.le_of_ble_eq_true rfl) (Nat.le_of_ble_eq_true rfl) (by rw [cs_swQ, if_pos hQ]; simp only [cs_nn]; rw [if_neg (by omega), if_pos (by omega)]) (by rw [op_sw, if_neg (fun q => by have q1 := q.2.2; simp only [cs_nn] at q1; omega)]) dc_M_swap_151
                      · refine lv_lload X.1 X.2.1 dc_M_swap_122 (lv_at hl 0 rfl) ?_
                        refine lv_iload X.1 X.2.1 dc_M_swap_124 (lv_at hl 5 rfl) ?_
                        refine cx_i2l X (by omega) (by omega) dc_M_swap_126 ?_
                        refine cx_lcmp_lt (tgt := 150) X (by omega) (by omega) (by omega) (by omega) dc_M_swap_127 dc_M_swap_128 (by decide) (fun c_15 => by exfalso; have := hgy (by omega); omega) (fun c_15 => ?_)
                        refine lv_aload_n X.1 X.2.1 dc_M_swap_131 rfl (lv_at hl 1 rfl) ?_
                        refine lv_iload_n X.1 X.2.1 dc_M_swap_132 rfl (lv_at hl 3 rfl) ?_
                        refine cx_cVN (r := .long (jL (cs_sum (S 21 k) 12))) (As := [.int (jI ((k : Int)))]) (rest := []) X B kc_M_allShares gm_M_135 (c_M_allShares l u ad S sc hI hY k hk) (fun _ _ _ h => h) (wM_20 u ad S sc) rfl rfl ⟨(Nat.le_of_ble_eq_true rfl), (Nat.le_of_ble_eq_true rfl)⟩ ⟨(Nat.le_of_ble_eq_true rfl), (Nat.le_of_ble_eq_true rfl)⟩ rfl hl.1 (Nat.le_of_ble_eq_true rfl) dc_M_swap_133 rfl ?_
                        have r_16 := cs_shs_b hI k
                        refine lv_lload X.1 X.2.1 dc_M_swap_136 (lv_at hl 0 rfl) ?_
                        refine lv_iload X.1 X.2.1 dc_M_swap_138 (lv_at hl 5 rfl) ?_
                        refine cx_i2l X (by omega) (by omega) dc_M_swap_140 ?_
                        refine cx_ldiv X (by omega) (by omega) (by omega) (by omega) dc_M_swap_141 ?_
                        refine cx_ladd X dc_M_swap_142 ?_
                        refine cx_ldc2 (a := 2000000000) X gk_M_138 (by decide +kernel) dc_M_swap_143 ?_
                        refine cx_lcmp_le (tgt := 152) X (by omega) (by omega) (by omega) (by omega) dc_M_swap_146 dc_M_swap_147 (by decide) (fun c_17 => ?_) (fun c_17 => ?_)
                        · refine lv_aload_n X.1 X.2.1 dc_M_swap_152 rfl (lv_at hl 1 rfl) ?_
                          refine cx_get (v := .ref (ad 32 0)) X B (wM_20 u ad S sc) rfl uw_M 13 (by decide) gf_M_45 rfl dc_M_swap_153 ?_
                          refine cx_bipush X dc_M_swap_156 (by decide +kernel) ?_
                          refine lv_iload_n X.1 X.2.1 dc_M_swap_158 rfl (lv_at hl 2 rfl) ?_
                          refine cx_imul X dc_M_swap_159 ?_
                          refine lv_iload X.1 X.2.1 dc_M_swap_160 (lv_at hl 6 rfl) ?_
                          refine cx_iadd X dc_M_swap_162 ?_
                          refine lv_aload_n X.1 X.2.1 dc_M_swap_163 rfl (lv_at hl 1 rfl) ?_
                          refine cx_get (v := .ref (ad 32 0)) X B (wM_20 u ad S sc) rfl uw_M 13 (by decide) gf_M_45 rfl dc_M_swap_164 ?_
                          refine cx_bipush X dc_M_swap_167 (by decide +kernel) ?_
                          refine lv_iload_n X.1 X.2.1 dc_M_swap_169 rfl (lv_at hl 2 rfl) ?_
                          refine cx_imul X dc_M_swap_170 ?_
                          refine lv_iload X.1 X.2.1 dc_M_swap_171 (lv_at hl 6 rfl) ?_
                          refine cx_iadd X dc_M_swap_173 ?_
                          refine cx_lald X B (wM_32 u ad S sc) ((12 * i) + h) (by omega) (by omega) (by decide) dc_M_swap_174 ?_
                          rw [show ((12 * i) + h) / 12 = i by omega, show ((12 * i) + h) % 12 = h by omega]
                          refine lv_lload X.1 X.2.1 dc_M_swap_175 (lv_at hl 7 rfl) ?_
                          refine cx_lsub X dc_M_swap_177 ?_
                          refine cx_last X B (wM_32 u ad S sc) ((12 * i) + h) (by omega) (by omega) (by decide) dc_M_swap_178 (fun H locs B => ?_)
                          have B : cx_B u (cx_A (wM u ad S sc) sz) (cx_up (wM u ad S sc) 32 0 (ad 32 0, .inl (u.2 1, 96, .inr (.inl (fun z_ => jL (va_up (fun z_ => S 21 (z_ / 12) (z_ % 12)) ((12 * i) + h) ((S 21 i h) - g) z_)))))) s H locs := B
                          have hki : k ≠ i := by omega
                          have B : cx_B u (cx_A (wM u ad S sc) sz) (wM u ad (cs_u (S) 21 i h (S 21 i h - g)) sc) s H locs := by rw [← wM_f21 u ad _ sc (by omega)]; exact B
                          refine lv_aload_n X.1 X.2.1 dc_M_swap_179 rfl (lv_at hl 1 rfl) ?_
                          refine cx_get (v := .ref (ad 32 0)) X B (wM_20 u ad (cs_u (S) 21 i h (S 21 i h - g)) sc) rfl uw_M 13 (by decide) gf_M_45 rfl dc_M_swap_180 ?_
                          refine cx_bipush X dc_M_swap_183 (by decide +kernel) ?_
                          refine lv_iload_n X.1 X.2.1 dc_M_swap_185 rfl (lv_at hl 3 rfl) ?_
                          refine cx_imul X dc_M_swap_186 ?_
                          refine lv_iload X.1 X.2.1 dc_M_swap_187 (lv_at hl 6 rfl) ?_
                          refine cx_iadd X dc_M_swap_189 ?_
                          refine lv_aload_n X.1 X.2.1 dc_M_swap_190 rfl (lv_at hl 1 rfl) ?_
                          refine cx_get (v := .ref (ad 32 0)) X B (wM_20 u ad (cs_u (S) 21 i h (S 21 i h - g)) sc) rfl uw_M 13 (by decide) gf_M_45 rfl dc_M_swap_191 ?_
                          refine cx_bipush X dc_M_swap_194 (by decide +kernel) ?_
                          refine lv_iload_n X.1 X.2.1 dc_M_swap_196 rfl (lv_at hl 3 rfl) ?_
                          refine cx_imul X dc_M_swap_197 ?_
                          refine lv_iload X.1 X.2.1 dc_M_swap_198 (lv_at hl 6 rfl) ?_
                          refine cx_iadd X dc_M_swap_200 ?_
                          refine cx_lald X B (wM_32 u ad (cs_u (S) 21 i h (S 21 i h - g)) sc) ((12 * k) + h) (by omega) (by omega) (by decide) dc_M_swap_201 ?_
                          rw [show ((12 * k) + h) / 12 = k by omega, show ((12 * k) + h) % 12 = h by omega]
                          rw [show (cs_u (S) 21 i h (S 21 i h - g)) 21 k h = S 21 k h by simp [cs_u, hki]]
                          refine lv_lload X.1 X.2.1 dc_M_swap_202 (lv_at hl 0 rfl) ?_
                          refine lv_iload X.1 X.2.1 dc_M_swap_204 (lv_at hl 5 rfl) ?_
                          refine cx_i2l X (by omega) (by omega) dc_M_swap_206 ?_
                          refine cx_ldiv X (by omega) (by omega) (by omega) (by omega) dc_M_swap_207 ?_
                          refine cx_ladd X dc_M_swap_208 ?_
                          refine cx_last X B (wM_32 u ad (cs_u (S) 21 i h (S 21 i h - g)) sc) ((12 * k) + h) (by omega) (by omega) (by decide) dc_M_swap_209 (fun H locs B => ?_)
                          have B : cx_B u (cx_A (wM u ad S sc) sz) (cx_up (wM u ad (cs_u (S) 21 i h (S 21 i h - g)) sc) 32 0 (ad 32 0, .inl (u.2 1, 96, .inr (.inl (fun z_ => jL (va_up (fun z_ => (cs_u (S) 21 i h (S 21 i h - g)) 21 (z_ / 12) (z_ % 12)) ((12 * k) + h) ((S 21 k h) + ((g * x) / y)) z_)))))) s H locs := B
                          have B : cx_B u (cx_A (wM u ad S sc) sz) (wM u ad (cs_u (cs_u (S) 21 i h (S 21 i h - g)) 21 k h (S 21 k h + g * x / y)) sc) s H locs := by rw [← wM_f21 u ad _ sc (by omega)]; exact B
                          refine lv_aload_n X.1 X.2.1 dc_M_swap_210 rfl (lv_at hl 1 rfl) ?_
                          refine cx_get (v := .ref (ad 26 0)) X B (wM_20 u ad (cs_u (cs_u (S) 21 i h (S 21 i h - g)) 21 k h (S 21 k h + g * x / y)) sc) rfl uw_M 6 (by decide) gf_M_27 rfl dc_M_swap_211 ?_
                          refine lv_iload_n X.1 X.2.1 dc_M_swap_214 rfl (lv_at hl 2 rfl) ?_
                          refine lv_aload_n X.1 X.2.1 dc_M_swap_215 rfl (lv_at hl 1 rfl) ?_
                          refine cx_get (v := .ref (ad 26 0)) X B (wM_20 u ad (cs_u (cs_u (S) 21 i h (S 21 i h - g)) 21 k h (S 21 k h + g * x / y)) sc) rfl uw_M 6 (by decide) gf_M_27 rfl dc_M_swap_216 ?_
                          refine lv_iload_n X.1 X.2.1 dc_M_swap_219 rfl (lv_at hl 2 rfl) ?_
                          refine cx_lald (f := fun z_ => S 19 z_ 0) X B (wM_26 u ad (cs_u (cs_u (S) 21 i h (S 21 i h - g)) 21 k h (S 21 k h + g * x / y)) sc) (i) (by omega) (by omega) (by decide) dc_M_swap_220 ?_
                          refine lv_lload X.1 X.2.1 dc_M_swap_221 (lv_at hl 7 rfl) ?_
                          refine cx_lsub X dc_M_swap_223 ?_
                          refine cx_last X B (wM_26 u ad (cs_u (cs_u (S) 21 i h (S 21 i h - g)) 21 k h (S 21 k h + g * x / y)) sc) (i) (by omega) (by omega) (by decide) dc_M_swap_224 (fun H locs B => ?_)
                          have B : cx_B u (cx_A (wM u ad S sc) sz) (cx_up (wM u ad (cs_u (cs_u (S) 21 i h (S 21 i h - g)) 21 k h (S 21 k h + g * x / y)) sc) 26 0 (ad 26 0, .inl (u.2 1, 8, .inr (.inl (fun z_ => jL (va_up (fun z_ => S 19 z_ 0) i ((S 19 i 0) - g) z_)))))) s H locs := B
                          refine lv_aload_n X.1 X.2.1 dc_M_swap_225 rfl (lv_at hl 1 rfl) ?_
                          refine cx_get (v := .ref (ad 26 0)) X B ((cx_up_n _ _ (fun q => absurd q.1 (by decide))).trans (wM_20 u ad (cs_u (cs_u (S) 21 i h (S 21 i h - g)) 21 k h (S 21 k h + g * x / y)) sc)) rfl uw_M 6 (by decide) gf_M_27 rfl dc_M_swap_226 ?_
                          refine lv_iload_n X.1 X.2.1 dc_M_swap_229 rfl (lv_at hl 3 rfl) ?_
                          refine lv_aload_n X.1 X.2.1 dc_M_swap_230 rfl (lv_at hl 1 rfl) ?_
                          refine cx_get (v := .ref (ad 26 0)) X B ((cx_up_n _ _ (fun q => absurd q.1 (by decide))).trans (wM_20 u ad (cs_u (cs_u (S) 21 i h (S 21 i h - g)) 21 k h (S 21 k h + g * x / y)) sc)) rfl uw_M 6 (by decide) gf_M_27 rfl dc_M_swap_231 ?_
                          refine lv_iload_n X.1 X.2.1 dc_M_swap_234 rfl (lv_at hl 3 rfl) ?_
                          refine cx_lald X B (cx_up_s _ _ _ _) (k) (by omega) (by omega) (by decide) dc_M_swap_235 ?_
                          rw [va_up_ne _ _ hki]
                          refine lv_lload X.1 X.2.1 dc_M_swap_236 (lv_at hl 0 rfl) ?_
                          refine lv_iload X.1 X.2.1 dc_M_swap_238 (lv_at hl 5 rfl) ?_
                          refine cx_i2l X (by omega) (by omega) dc_M_swap_240 ?_
                          refine cx_ldiv X (by omega) (by omega) (by omega) (by omega) dc_M_swap_241 ?_
                          refine cx_ladd X dc_M_swap_242 ?_
                          refine cx_last X B (cx_up_s _ _ _ _) (k) (by omega) (by omega) (by decide) dc_M_swap_243 (fun H locs B => ?_)
                          have B : cx_B u (cx_A (wM u ad S sc) sz) (cx_up (cx_up (wM u ad (cs_u (cs_u (S) 21 i h (S 21 i h - g)) 21 k h (S 21 k h + g * x / y)) sc) 26 0 (ad 26 0, .inl (u.2 1, 8, .inr (.inl (fun z_ => jL (va_up (fun z_ => S 19 z_ 0) i ((S 19 i 0) - g) z_)))))) 26 0 (ad 26 0, .inl (u.2 1, 8, .inr (.inl (fun z_ => jL (va_up (fun z_ => va_up (fun z_ => S 19 z_ 0) i ((S 19 i 0) - g) z_) k ((S 19 k 0) + ((g * x) / y)) z_)))))) s H locs := B
                          refine cx_iconst X dc_M_swap_244 ?_
                          have hQ : 0 ≤ (i : Int) ∧ (i : Int) < S 0 0 0 ∧ 0 ≤ (k : Int) ∧ (k : Int) < S 0 0 0 ∧ 0 ≤ (h : Int) ∧ (h : Int) < S 1 0 0 ∧ (i : Int) ≠ (k : Int) ∧ S 14 (i : Int).toNat 0 = 1 ∧ S 14 (k : Int).toNat 0 = 1 ∧ 1 ≤ x ∧ x ≤ 1000 ∧ 1 ≤ y ∧ y ≤ 1000 ∧ 1 ≤ g ∧ g ≤ 1000000000 := by (try simp only [cs_nn]); omega
                          have hG : cx_up (cx_up (wM u ad (cs_u (cs_u (S) 21 i h (S 21 i h - g)) 21 k h (S 21 k h + g * x / y)) sc) 26 0 (ad 26 0, .inl (u.2 1, 8, .inr (.inl (fun z_ => jL (va_up (fun z_ => S 19 z_ 0) i ((S 19 i 0) - g) z_)))))) 26 0 (ad 26 0, .inl (u.2 1, 8, .inr (.inl (fun z_ => jL (va_up (fun z_ => va_up (fun z_ => S 19 z_ 0) i ((S 19 i 0) - g) z_) k ((S 19 k 0) + ((g * x) / y)) z_))))) = wM u ad (op_sw S (i : Int) (k : Int) x y (h : Int) g) sc := by
                            rw [op_sw, if_pos ⟨hQ, by simp only [cs_nn]; omega⟩]
                            unfold op_sh
                            funext k j
                            match k with
                            | 0 => simp [cx_up, wM]
                            | 1 => simp [cx_up, wM]
                            | 2 => simp [cx_up, wM]
                            | 3 => simp [cx_up, wM]
                            | 4 => simp [cx_up, wM]
                            | 5 => simp [cx_up, wM]
                            | 6 => simp [cx_up, wM]
                            | 7 => simp [cx_up, wM]
                            | 8 => simp [cx_up, wM]
                            | 9 => simp [cx_up, wM]
                            | 10 => simp [cx_up, wM]
                            | 11 => simp [cx_up, wM]
                            | 12 => simp [cx_up, wM]
                            | 13 => simp [cx_up, wM]
                            | 14 => simp [cx_up, wM]
                            | 15 => simp [cx_up, wM]
                            | 16 => simp [cx_up, wM]
                            | 17 => simp [cx_up, wM]
                            | 18 => simp [cx_up, wM]
                            | 19 => simp [cx_up, wM]
                            | 20 => by_cases hz : j = 0 <;> simp [cx_up, wM, cs_u, hz, va_upE, Int.toNat_natCast, hki, Ne.symm hki, Int.sub_eq_add_neg]
                            | 21 => by_cases hz : j = 0 <;> simp [cx_up, wM, cs_u, hz, va_upE, Int.toNat_natCast, hki, Ne.symm hki, Int.sub_eq_add_neg]
                            | 22 => by_cases hz : j = 0 <;> simp [cx_up, wM, cs_u, hz, va_upE, Int.toNat_natCast, hki, Ne.symm hki, Int.sub_eq_add_neg]
                            | 23 => by_cases hz : j = 0 <;> simp [cx_up, wM, cs_u, hz, va_upE, Int.toNat_natCast, hki, Ne.symm hki, Int.sub_eq_add_neg]
                            | 24 => by_cases hz : j = 0 <;> simp [cx_up, wM, cs_u, hz, va_upE, Int.toNat_natCast, hki, Ne.symm hki, Int.sub_eq_add_neg]
                            | 25 => by_cases hz : j = 0 <;> simp [cx_up, wM, cs_u, hz, va_upE, Int.toNat_natCast, hki, Ne.symm hki, Int.sub_eq_add_neg]
                            | 26 => by_cases hz : j = 0 <;> simp [cx_up, wM, cs_u, hz, va_upE, Int.toNat_natCast, hki, Ne.symm hki, Int.sub_eq_add_neg]
                            | 27 => by_cases hz : j = 0 <;> simp [cx_up, wM, cs_u, hz, va_upE, Int.toNat_natCast, hki, Ne.symm hki, Int.sub_eq_add_neg]
                            | 28 => by_cases hz : j = 0 <;> simp [cx_up, wM, cs_u, hz, va_upE, Int.toNat_natCast, hki, Ne.symm hki, Int.sub_eq_add_neg]
                            | 29 => by_cases hz : j = 0 <;> simp [cx_up, wM, cs_u, hz, va_upE, Int.toNat_natCast, hki, Ne.symm hki, Int.sub_eq_add_neg]
                            | 30 => by_cases hz : j = 0 <;> simp [cx_up, wM, cs_u, hz, va_upE, Int.toNat_natCast, hki, Ne.symm hki, Int.sub_eq_add_neg]
                            | 31 => by_cases hz : j = 0 <;> simp [cx_up, wM, cs_u, hz, va_upE, Int.toNat_natCast, hki, Ne.symm hki, Int.sub_eq_add_neg]
                            | 32 => by_cases hz : j = 0 <;> simp [cx_up, wM, cs_u, hz, va_upE, Int.toNat_natCast, hki, Ne.symm hki, Int.sub_eq_add_neg]
                            | 33 => by_cases hz : j = 0 <;> simp [cx_up, wM, cs_u, hz, va_upE, Int.toNat_natCast, hki, Ne.symm hki, Int.sub_eq_add_neg]
                            | 34 => by_cases hz : j = 0 <;> simp [cx_up, wM, cs_u, hz, va_upE, Int.toNat_natCast, hki, Ne.symm hki, Int.sub_eq_add_neg]
                            | 35 => by_cases hz : j = 0 <;> simp [cx_up, wM, cs_u, hz, va_upE, Int.toNat_natCast, hki, Ne.symm hki, Int.sub_eq_add_neg]
                            | 36 => by_cases hz : j = 0 <;> simp [cx_up, wM, cs_u, hz, va_upE, Int.toNat_natCast, hki, Ne.symm hki, Int.sub_eq_add_neg]
                            | 37 => by_cases hz : j = 0 <;> simp [cx_up, wM, cs_u, hz, va_upE, Int.toNat_natCast, hki, Ne.symm hki, Int.sub_eq_add_neg]
                            | 38 => by_cases hz : j = 0 <;> simp [cx_up, wM, cs_u, hz, va_upE, Int.toNat_natCast, hki, Ne.symm hki, Int.sub_eq_add_neg]
                            | 39 => by_cases hz : j = 0 <;> simp [cx_up, wM, cs_u, hz, va_upE, Int.toNat_natCast, hki, Ne.symm hki, Int.sub_eq_add_neg]
                            | 40 => by_cases hz : j = 0 <;> simp [cx_up, wM, cs_u, hz, va_upE, Int.toNat_natCast, hki, Ne.symm hki, Int.sub_eq_add_neg]
                            | k + 41 => simp [cx_up, wM]
                          exact cx_iretM X B hsz hr hlk (Nat.le_of_ble_eq_true rfl) (Nat.le_of_ble_eq_true rfl) (by rw [cs_swQ, if_pos hQ]; simp only [cs_nn]; rw [if_neg (by omega), if_neg (by omega)]) (hG) dc_M_swap_245
                        · refine cx_iconst X dc_M_swap_150 ?_
                          have hQ : 0 ≤ (i : Int) ∧ (i : Int) < S 0 0 0 ∧ 0 ≤ (k : Int) ∧ (k : Int) < S 0 0 0 ∧ 0 ≤ (h : Int) ∧ (h : Int) < S 1 0 0 ∧ (i : Int) ≠ (k : Int) ∧ S 14 (i : Int).toNat 0 = 1 ∧ S 14 (k : Int).toNat 0 = 1 ∧ 1 ≤ x ∧ x ≤ 1000 ∧ 1 ≤ y ∧ y ≤ 1000 ∧ 1 ≤ g ∧ g ≤ 1000000000 := by (try simp only [cs_nn]); omega
                          exact cx_iretM X B hsz hr hlk (Nat.le_of_ble_eq_true rfl) (Nat.le_of_ble_eq_true rfl) (by rw [cs_swQ, if_pos hQ]; simp only [cs_nn]; rw [if_neg (by omega), if_pos (by omega)]) (by rw [op_sw, if_neg (fun q => by have q1 := q.2.2; simp only [cs_nn] at q1; omega)]) dc_M_swap_151
                    · refine cx_iconst X dc_M_swap_102 ?_
                      have hQ : 0 ≤ (i : Int) ∧ (i : Int) < S 0 0 0 ∧ 0 ≤ (k : Int) ∧ (k : Int) < S 0 0 0 ∧ 0 ≤ (h : Int) ∧ (h : Int) < S 1 0 0 ∧ (i : Int) ≠ (k : Int) ∧ S 14 (i : Int).toNat 0 = 1 ∧ S 14 (k : Int).toNat 0 = 1 ∧ 1 ≤ x ∧ x ≤ 1000 ∧ 1 ≤ y ∧ y ≤ 1000 ∧ 1 ≤ g ∧ g ≤ 1000000000 := by (try simp only [cs_nn]); omega
                      exact cx_iretM X B hsz hr hlk (Nat.le_of_ble_eq_true rfl) (Nat.le_of_ble_eq_true rfl) (by rw [cs_swQ, if_pos hQ]; simp only [cs_nn]; rw [if_pos (by omega)]) (by rw [op_sw, if_neg (fun q => by have q1 := q.2.1; simp only [cs_nn] at q1; omega)]) dc_M_swap_103
                  · refine cx_iconst X dc_M_swap_87 ?_
                    have hQ : ¬ (0 ≤ (i : Int) ∧ (i : Int) < S 0 0 0 ∧ 0 ≤ (k : Int) ∧ (k : Int) < S 0 0 0 ∧ 0 ≤ (h : Int) ∧ (h : Int) < S 1 0 0 ∧ (i : Int) ≠ (k : Int) ∧ S 14 (i : Int).toNat 0 = 1 ∧ S 14 (k : Int).toNat 0 = 1 ∧ 1 ≤ x ∧ x ≤ 1000 ∧ 1 ≤ y ∧ y ≤ 1000 ∧ 1 ≤ g ∧ g ≤ 1000000000) := by (try simp only [cs_nn]); omega
                    exact cx_iretM X B hsz hr hlk (Nat.le_of_ble_eq_true rfl) (Nat.le_of_ble_eq_true rfl) (by rw [cs_swQ, if_neg hQ]) (by rw [op_sw, if_neg (fun q => hQ q.1)]) dc_M_swap_88
            · refine cx_iconst X dc_M_swap_48 ?_
              have hQ : ¬ (0 ≤ (i : Int) ∧ (i : Int) < S 0 0 0 ∧ 0 ≤ (k : Int) ∧ (k : Int) < S 0 0 0 ∧ 0 ≤ (h : Int) ∧ (h : Int) < S 1 0 0 ∧ (i : Int) ≠ (k : Int) ∧ S 14 (i : Int).toNat 0 = 1 ∧ S 14 (k : Int).toNat 0 = 1 ∧ 1 ≤ x ∧ x ≤ 1000 ∧ 1 ≤ y ∧ y ≤ 1000 ∧ 1 ≤ g ∧ g ≤ 1000000000) := by (try simp only [cs_nn]); omega
              exact cx_iretM X B hsz hr hlk (Nat.le_of_ble_eq_true rfl) (Nat.le_of_ble_eq_true rfl) (by rw [cs_swQ, if_neg hQ]) (by rw [op_sw, if_neg (fun q => hQ q.1)]) dc_M_swap_49
