set_option maxHeartbeats 4000000 in
set_option maxRecDepth 100000 in
theorem c_C_weight (l : Launch) (u : cx_U) (sz : Nat) (ad : Nat → Nat → Nat) (S : cs_S) (sc : Nat → Nat → Int) (hI : cs_I S) (a b : Int) (a1 : -2147483648 ≤ a) (a2 : a ≤ 2147483647) (b1 : -2147483648 ≤ b) (b2 : b ≤ 2147483647) (x : Int) (x1 : -9223372036854775808 ≤ x) (x2 : x ≤ 9223372036854775807) : cx_M l u mn_C_weight bc_C_weight 6 (some .boolean) 1 25 [.ref (ad 0 0), .int (jI (a)), .int (jI (b)), .long (jL (x))] (wC u ad S sc) sz (some (.int (jI (jB (0 ≤ a ∧ a < S 0 0 0 ∧ 0 ≤ b ∧ b < S 1 0 0 ∧ S 14 a.toNat 0 = 0 ∧ 0 ≤ x ∧ x ≤ 1000000))))) (fun w' => w' = wC u ad (op_weight S a b x) sc) 0 0 := by
  refine cx_M.of (by decide +kernel) (Nat.le_of_ble_eq_true rfl) ?_
  intro p e s m args below meth c ls hsz X hr hlk hin B hl
  have X : CallFix p m c bc_C_weight 6 s args GW "CatchShares" := X
  have hl : lv_has ls 6 [(0, .ref (ad 0 0)), (1, .int (jI (a))), (2, .int (jI (b))), (3, .long (jL (x)))] := hl
  have hI1 := hI.1
  have hI5 := hI.2.2.2.2.1
  refine lv_aload_n X.1 X.2.1 dc_C_weight_0 rfl (lv_at hl 0 rfl) ?_
  refine lv_iload_n X.1 X.2.1 dc_C_weight_1 rfl (lv_at hl 1 rfl) ?_
  by_cases hs_1 : 0 ≤ a ∧ a < S 0 0 0
  · obtain ⟨i, rfl⟩ : ∃ i : Nat, a = (i : Int) := ⟨a.toNat, by omega⟩
    have hi : (i : Int) < S 0 0 0 := hs_1.2
    refine cx_cVN (As := [.int (jI (i : Int))]) (rest := []) X B kc_C_findStock gm_C_62 (c_C_findStock l u ad S sc hI i hi) (fun _ _ _ h => h) (wC_0 u ad S sc) rfl rfl ⟨(Nat.le_of_ble_eq_true rfl), (Nat.le_of_ble_eq_true rfl)⟩ ⟨(Nat.le_of_ble_eq_true rfl), (Nat.le_of_ble_eq_true rfl)⟩ rfl hl.1 (Nat.le_of_ble_eq_true rfl) dc_C_weight_2 rfl ?_
    refine lv_astore (lv' := [(5, .ref (ad 14 i)), (0, .ref (ad 0 0)), (1, .int (jI ((i : Int)))), (2, .int (jI (b))), (3, .long (jL (x)))]) X.1 X.2.1 dc_C_weight_5 hl (by decide) rfl (fun ls hl => ?_)
    refine lv_aload X.1 X.2.1 dc_C_weight_7 (lv_at hl 0 rfl) ?_
    refine lv_ifnull X.1 X.2.1 dc_C_weight_9 ?_
    refine lv_aload_n X.1 X.2.1 dc_C_weight_12 rfl (lv_at hl 1 rfl) ?_
    refine lv_iload_n X.1 X.2.1 dc_C_weight_13 rfl (lv_at hl 3 rfl) ?_
    refine cx_cVN (r := .int (jI (jB (0 ≤ b ∧ b < S 1 0 0)))) (As := [.int (jI (b))]) (rest := []) X B kc_C_isHolder gm_C_66 (c_C_isHolder l u ad S sc hI b (by omega) (by omega)) (fun _ _ _ h => h) (wC_0 u ad S sc) rfl rfl ⟨(Nat.le_of_ble_eq_true rfl), (Nat.le_of_ble_eq_true rfl)⟩ ⟨(Nat.le_of_ble_eq_true rfl), (Nat.le_of_ble_eq_true rfl)⟩ rfl hl.1 (Nat.le_of_ble_eq_true rfl) dc_C_weight_14 rfl ?_
    refine cx_ifeqB (tgt := 39) X dc_C_weight_17 (by decide) (fun c_2 => ?_) (fun c_2 => ?_)
    · refine cx_iconst X dc_C_weight_39 ?_
      have hQ : ¬ (0 ≤ (i : Int) ∧ (i : Int) < S 0 0 0 ∧ 0 ≤ b ∧ b < S 1 0 0 ∧ S 14 (i : Int).toNat 0 = 0 ∧ 0 ≤ x ∧ x ≤ 1000000) := by (try simp only [cs_nn]); omega
      exact cx_zretM X B hsz hr hlk (Nat.le_of_ble_eq_true rfl) (Nat.le_of_ble_eq_true rfl) (by omega) (by omega) (by rw [jB_f hQ]) (by rw [op_weight, if_neg hQ]) dc_C_weight_40
    · obtain ⟨h, rfl⟩ : ∃ h : Nat, b = (h : Int) := ⟨b.toNat, by omega⟩
      refine lv_aload X.1 X.2.1 dc_C_weight_20 (lv_at hl 0 rfl) ?_
      refine cx_get (v := .int (jI (S 14 i 0))) X B (wC_14 u ad S sc hi) rfl uw_S 5 (by decide) gf_C_69 rfl dc_C_weight_22 ?_
      have r_3 := hI5 i
      refine cx_if_ne (tgt := 39) X (by omega) (by omega) dc_C_weight_25 (by decide) (fun c_4 => ?_) (fun c_4 => ?_)
      · refine cx_iconst X dc_C_weight_39 ?_
        have hQ : ¬ (0 ≤ (i : Int) ∧ (i : Int) < S 0 0 0 ∧ 0 ≤ (h : Int) ∧ (h : Int) < S 1 0 0 ∧ S 14 (i : Int).toNat 0 = 0 ∧ 0 ≤ x ∧ x ≤ 1000000) := by (try simp only [cs_nn]); omega
        exact cx_zretM X B hsz hr hlk (Nat.le_of_ble_eq_true rfl) (Nat.le_of_ble_eq_true rfl) (by omega) (by omega) (by rw [jB_f hQ]) (by rw [op_weight, if_neg hQ]) dc_C_weight_40
      · refine lv_lload_n X.1 X.2.1 dc_C_weight_28 rfl (lv_at hl 4 rfl) ?_
        refine cx_lconst (a := 0) X dc_C_weight_29 (by decide +kernel) ?_
        refine cx_ldc2 (a := 1000000) X gk_C_73 (by decide +kernel) dc_C_weight_30 ?_
        refine cx_cSN (r := .int (jI (jB (0 ≤ x ∧ x ≤ 1000000)))) (As := [.long (jL (x)), .long (jL (0)), .long (jL (1000000))]) (rest := []) X B kc_C_isWithin gm_C_48 (c_C_isWithin l u _ x 0 1000000 (by omega) (by omega) (by omega) (by omega) (by omega) (by omega)) (fun _ _ _ h => h) ⟨(Nat.le_of_ble_eq_true rfl), (Nat.le_of_ble_eq_true rfl)⟩ ⟨(Nat.le_of_ble_eq_true rfl), (Nat.le_of_ble_eq_true rfl)⟩ rfl hl.1 (Nat.le_of_ble_eq_true rfl) dc_C_weight_33 rfl ?_
        refine cx_ifneB (tgt := 41) X dc_C_weight_36 (by decide) (fun c_5 => ?_) (fun c_5 => ?_)
        · refine lv_aload X.1 X.2.1 dc_C_weight_41 (lv_at hl 0 rfl) ?_
          refine cx_get (v := .ref (ad 15 i)) X B (wC_14 u ad S sc hi) rfl uw_S 2 (by decide) gf_C_75 rfl dc_C_weight_43 ?_
          refine lv_iload_n X.1 X.2.1 dc_C_weight_46 rfl (lv_at hl 3 rfl) ?_
          refine lv_lload_n X.1 X.2.1 dc_C_weight_47 rfl (lv_at hl 4 rfl) ?_
          refine cx_last X B (wC_15 u ad S sc hi) (h) (by omega) (by omega) (by decide) dc_C_weight_48 (fun H locs B => ?_)
          have B : cx_B u (cx_A (wC u ad S sc) sz) (cx_up (wC u ad S sc) 15 i (ad 15 i, .inl (u.2 1, 12, .inr (.inl (fun z_ => jL (va_up (fun z_ => S 20 i z_) h x z_)))))) s H locs := B
          refine cx_iconst X dc_C_weight_49 ?_
          have hQ : 0 ≤ (i : Int) ∧ (i : Int) < S 0 0 0 ∧ 0 ≤ (h : Int) ∧ (h : Int) < S 1 0 0 ∧ S 14 (i : Int).toNat 0 = 0 ∧ 0 ≤ x ∧ x ≤ 1000000 := by (try simp only [cs_nn]); omega
          have hG : cx_up (wC u ad S sc) 15 i (ad 15 i, .inl (u.2 1, 12, .inr (.inl (fun z_ => jL (va_up (fun z_ => S 20 i z_) h x z_))))) = wC u ad (op_weight S (i : Int) (h : Int) x) sc := by
            rw [op_weight, if_pos hQ]
            funext k j
            match k with
            | 0 => by_cases hz : j = 0 <;> simp [cx_up, wC, cs_u, hz, va_upE, Int.toNat_natCast, hi]
            | 1 => by_cases hz : j = 0 <;> simp [cx_up, wC, cs_u, hz, va_upE, Int.toNat_natCast, hi]
            | 2 => by_cases hz : j = 0 <;> simp [cx_up, wC, cs_u, hz, va_upE, Int.toNat_natCast, hi]
            | 3 => by_cases hz : j = 0 <;> simp [cx_up, wC, cs_u, hz, va_upE, Int.toNat_natCast, hi]
            | 4 => by_cases hz : j = 0 <;> simp [cx_up, wC, cs_u, hz, va_upE, Int.toNat_natCast, hi]
            | 5 => by_cases hz : j = 0 <;> simp [cx_up, wC, cs_u, hz, va_upE, Int.toNat_natCast, hi]
            | 6 => by_cases hz : j = 0 <;> simp [cx_up, wC, cs_u, hz, va_upE, Int.toNat_natCast, hi]
            | 7 => by_cases hz : j = 0 <;> simp [cx_up, wC, cs_u, hz, va_upE, Int.toNat_natCast, hi]
            | 8 => by_cases hz : j = 0 <;> simp [cx_up, wC, cs_u, hz, va_upE, Int.toNat_natCast, hi]
            | 9 => by_cases hz : j = 0 <;> simp [cx_up, wC, cs_u, hz, va_upE, Int.toNat_natCast, hi]
            | 10 => by_cases hz : j = 0 <;> simp [cx_up, wC, cs_u, hz, va_upE, Int.toNat_natCast, hi]
            | 11 => by_cases hz : j = 0 <;> simp [cx_up, wC, cs_u, hz, va_upE, Int.toNat_natCast, hi]
            | 12 => by_cases hz : j = 0 <;> simp [cx_up, wC, cs_u, hz, va_upE, Int.toNat_natCast, hi]
            | 13 => by_cases hz : j = 0 <;> simp [cx_up, wC, cs_u, hz, va_upE, Int.toNat_natCast, hi]
            | 14 => by_cases hj0 : j = i <;> simp [cx_up, wC, cs_u, va_upE, Int.toNat_natCast, hi, hj0]
            | 15 => by_cases hj0 : j = i <;> simp [cx_up, wC, cs_u, va_upE, Int.toNat_natCast, hi, hj0]
            | 16 => by_cases hj0 : j = i <;> simp [cx_up, wC, cs_u, va_upE, Int.toNat_natCast, hi, hj0]
            | k + 17 => simp [cx_up, wC]
          exact cx_zretM X B hsz hr hlk (Nat.le_of_ble_eq_true rfl) (Nat.le_of_ble_eq_true rfl) (by omega) (by omega) (by rw [jB_t hQ]) (hG) dc_C_weight_50
        · refine cx_iconst X dc_C_weight_39 ?_
          have hQ : ¬ (0 ≤ (i : Int) ∧ (i : Int) < S 0 0 0 ∧ 0 ≤ (h : Int) ∧ (h : Int) < S 1 0 0 ∧ S 14 (i : Int).toNat 0 = 0 ∧ 0 ≤ x ∧ x ≤ 1000000) := by (try simp only [cs_nn]); omega
          exact cx_zretM X B hsz hr hlk (Nat.le_of_ble_eq_true rfl) (Nat.le_of_ble_eq_true rfl) (by omega) (by omega) (by rw [jB_f hQ]) (by rw [op_weight, if_neg hQ]) dc_C_weight_40
  · refine cx_cVN (As := [.int (jI (a))]) (rest := []) X B kc_C_findStock gm_C_62 (c_C_findStock_0 l u ad S sc hI a (by omega) (by omega) hs_1) (fun _ _ _ h => h) (wC_0 u ad S sc) rfl rfl ⟨(Nat.le_of_ble_eq_true rfl), (Nat.le_of_ble_eq_true rfl)⟩ ⟨(Nat.le_of_ble_eq_true rfl), (Nat.le_of_ble_eq_true rfl)⟩ rfl hl.1 (Nat.le_of_ble_eq_true rfl) dc_C_weight_2 rfl ?_
    refine lv_astoreN (lv' := [(5, .null), (0, .ref (ad 0 0)), (1, .int (jI (a))), (2, .int (jI (b))), (3, .long (jL (x)))]) X.1 X.2.1 dc_C_weight_5 hl (by decide) rfl (fun ls hl => ?_)
    refine lv_aloadN X.1 X.2.1 dc_C_weight_7 (lv_at hl 0 rfl) ?_
    refine lv_ifnullN (tgt := 39) X.1 X.2.1 dc_C_weight_9 (by decide) ?_
    refine cx_iconst X dc_C_weight_39 ?_
    have hQ : ¬ (0 ≤ a ∧ a < S 0 0 0 ∧ 0 ≤ b ∧ b < S 1 0 0 ∧ S 14 a.toNat 0 = 0 ∧ 0 ≤ x ∧ x ≤ 1000000) := by (try simp only [cs_nn]); omega
    exact cx_zretM X B hsz hr hlk (Nat.le_of_ble_eq_true rfl) (Nat.le_of_ble_eq_true rfl) (by omega) (by omega) (by rw [jB_f hQ]) (by rw [op_weight, if_neg hQ]) dc_C_weight_40
set_option maxHeartbeats 4000000 in
set_option maxRecDepth 100000 in
theorem c_C_aside (l : Launch) (u : cx_U) (sz : Nat) (ad : Nat → Nat → Nat) (S : cs_S) (sc : Nat → Nat → Int) (hI : cs_I S) (a x : Int) (a1 : -2147483648 ≤ a) (a2 : a ≤ 2147483647) (x1 : -9223372036854775808 ≤ x) (x2 : x ≤ 9223372036854775807) : cx_M l u mn_C_aside bc_C_aside 5 (some .boolean) 1 25 [.ref (ad 0 0), .int (jI (a)), .long (jL (x))] (wC u ad S sc) sz (some (.int (jI (jB (0 ≤ a ∧ a < S 0 0 0 ∧ S 14 a.toNat 0 = 0 ∧ 0 ≤ x ∧ x ≤ S 12 a.toNat 0))))) (fun w' => w' = wC u ad (op_aside S a x) sc) 0 0 := by
  refine cx_M.of (by decide +kernel) (Nat.le_of_ble_eq_true rfl) ?_
  intro p e s m args below meth c ls hsz X hr hlk hin B hl
  have X : CallFix p m c bc_C_aside 5 s args GW "CatchShares" := X
  have hl : lv_has ls 5 [(0, .ref (ad 0 0)), (1, .int (jI (a))), (2, .long (jL (x)))] := hl
  have hI1 := hI.1
  have hI5 := hI.2.2.2.2.1
  refine lv_aload_n X.1 X.2.1 dc_C_aside_0 rfl (lv_at hl 0 rfl) ?_
  refine lv_iload_n X.1 X.2.1 dc_C_aside_1 rfl (lv_at hl 1 rfl) ?_
  by_cases hs_1 : 0 ≤ a ∧ a < S 0 0 0
  · obtain ⟨i, rfl⟩ : ∃ i : Nat, a = (i : Int) := ⟨a.toNat, by omega⟩
    have hi : (i : Int) < S 0 0 0 := hs_1.2
    refine cx_cVN (As := [.int (jI (i : Int))]) (rest := []) X B kc_C_findStock gm_C_62 (c_C_findStock l u ad S sc hI i hi) (fun _ _ _ h => h) (wC_0 u ad S sc) rfl rfl ⟨(Nat.le_of_ble_eq_true rfl), (Nat.le_of_ble_eq_true rfl)⟩ ⟨(Nat.le_of_ble_eq_true rfl), (Nat.le_of_ble_eq_true rfl)⟩ rfl hl.1 (Nat.le_of_ble_eq_true rfl) dc_C_aside_2 rfl ?_
    refine lv_astore (lv' := [(4, .ref (ad 14 i)), (0, .ref (ad 0 0)), (1, .int (jI ((i : Int)))), (2, .long (jL (x)))]) X.1 X.2.1 dc_C_aside_5 hl (by decide) rfl (fun ls hl => ?_)
    refine lv_aload X.1 X.2.1 dc_C_aside_7 (lv_at hl 0 rfl) ?_
    refine lv_ifnull X.1 X.2.1 dc_C_aside_9 ?_
    refine lv_aload X.1 X.2.1 dc_C_aside_12 (lv_at hl 0 rfl) ?_
    refine cx_get (v := .int (jI (S 14 i 0))) X B (wC_14 u ad S sc hi) rfl uw_S 5 (by decide) gf_C_69 rfl dc_C_aside_14 ?_
    have r_2 := hI5 i
    refine cx_if_ne (tgt := 33) X (by omega) (by omega) dc_C_aside_17 (by decide) (fun c_3 => ?_) (fun c_3 => ?_)
    · refine cx_iconst X dc_C_aside_33 ?_
      have hQ : ¬ (0 ≤ (i : Int) ∧ (i : Int) < S 0 0 0 ∧ S 14 (i : Int).toNat 0 = 0 ∧ 0 ≤ x ∧ x ≤ S 12 (i : Int).toNat 0) := by (try simp only [cs_nn]); omega
      exact cx_zretM X B hsz hr hlk (Nat.le_of_ble_eq_true rfl) (Nat.le_of_ble_eq_true rfl) (by omega) (by omega) (by rw [jB_f hQ]) (by rw [op_aside, if_neg hQ]) dc_C_aside_34
    · refine lv_lload_n X.1 X.2.1 dc_C_aside_20 rfl (lv_at hl 3 rfl) ?_
      refine cx_lconst (a := 0) X dc_C_aside_21 (by decide +kernel) ?_
      refine lv_aload X.1 X.2.1 dc_C_aside_22 (lv_at hl 0 rfl) ?_
      refine cx_get (v := .long (jL (S 12 i 0))) X B (wC_14 u ad S sc hi) rfl uw_S 1 (by decide) gf_C_79 rfl dc_C_aside_24 ?_
      have r_4 := hI5 i
      refine cx_cSN (r := .int (jI (jB (0 ≤ x ∧ x ≤ (S 12 i 0))))) (As := [.long (jL (x)), .long (jL (0)), .long (jL (S 12 i 0))]) (rest := []) X B kc_C_isWithin gm_C_48 (c_C_isWithin l u _ x 0 (S 12 i 0) (by omega) (by omega) (by omega) (by omega) (by omega) (by omega)) (fun _ _ _ h => h) ⟨(Nat.le_of_ble_eq_true rfl), (Nat.le_of_ble_eq_true rfl)⟩ ⟨(Nat.le_of_ble_eq_true rfl), (Nat.le_of_ble_eq_true rfl)⟩ rfl hl.1 (Nat.le_of_ble_eq_true rfl) dc_C_aside_27 rfl ?_
      refine cx_ifneB (tgt := 35) X dc_C_aside_30 (by decide) (fun c_5 => ?_) (fun c_5 => ?_)
      · refine lv_aload X.1 X.2.1 dc_C_aside_35 (lv_at hl 0 rfl) ?_
        refine lv_lload_n X.1 X.2.1 dc_C_aside_37 rfl (lv_at hl 3 rfl) ?_
        refine cx_put (v := .long (jL (x))) X B (wC_14 u ad S sc hi) rfl uw_S ft_S fo_S fn_S 4 (by decide) gf_C_83 rfl (fo_S 4 (by decide)) rfl rfl (Nat.le_of_ble_eq_true rfl) dc_C_aside_38 (fun H locs B => ?_)
        have B : cx_B u (cx_A (wC u ad S sc) sz) (cx_up (wC u ad S sc) 14 i (ad 14 i, .inr (2, [.int (jI ((i : Int))), .long (jL (S 12 i 0)), .ref (ad 15 i), .ref (ad 16 i), .long (jL (x)), .int (jI (S 14 i 0)), .int (jI (S 15 i 0)), .int (jI (S 16 i 0)), .long (jL (S 17 i 0)), .long (jL (S 18 i 0)), .long (jL (S 22 i 0))]))) s H locs := B
        refine cx_iconst X dc_C_aside_41 ?_
        have hQ : 0 ≤ (i : Int) ∧ (i : Int) < S 0 0 0 ∧ S 14 (i : Int).toNat 0 = 0 ∧ 0 ≤ x ∧ x ≤ S 12 (i : Int).toNat 0 := by (try simp only [cs_nn]); omega
        have hG : cx_up (wC u ad S sc) 14 i (ad 14 i, .inr (2, [.int (jI ((i : Int))), .long (jL (S 12 i 0)), .ref (ad 15 i), .ref (ad 16 i), .long (jL (x)), .int (jI (S 14 i 0)), .int (jI (S 15 i 0)), .int (jI (S 16 i 0)), .long (jL (S 17 i 0)), .long (jL (S 18 i 0)), .long (jL (S 22 i 0))])) = wC u ad (op_aside S (i : Int) x) sc := by
          rw [op_aside, if_pos hQ]
          funext k j
          match k with
          | 0 => by_cases hz : j = 0 <;> simp [cx_up, wC, cs_u, hz, va_upE, Int.toNat_natCast, hi]
          | 1 => by_cases hz : j = 0 <;> simp [cx_up, wC, cs_u, hz, va_upE, Int.toNat_natCast, hi]
          | 2 => by_cases hz : j = 0 <;> simp [cx_up, wC, cs_u, hz, va_upE, Int.toNat_natCast, hi]
          | 3 => by_cases hz : j = 0 <;> simp [cx_up, wC, cs_u, hz, va_upE, Int.toNat_natCast, hi]
          | 4 => by_cases hz : j = 0 <;> simp [cx_up, wC, cs_u, hz, va_upE, Int.toNat_natCast, hi]
          | 5 => by_cases hz : j = 0 <;> simp [cx_up, wC, cs_u, hz, va_upE, Int.toNat_natCast, hi]
          | 6 => by_cases hz : j = 0 <;> simp [cx_up, wC, cs_u, hz, va_upE, Int.toNat_natCast, hi]
          | 7 => by_cases hz : j = 0 <;> simp [cx_up, wC, cs_u, hz, va_upE, Int.toNat_natCast, hi]
          | 8 => by_cases hz : j = 0 <;> simp [cx_up, wC, cs_u, hz, va_upE, Int.toNat_natCast, hi]
          | 9 => by_cases hz : j = 0 <;> simp [cx_up, wC, cs_u, hz, va_upE, Int.toNat_natCast, hi]
          | 10 => by_cases hz : j = 0 <;> simp [cx_up, wC, cs_u, hz, va_upE, Int.toNat_natCast, hi]
          | 11 => by_cases hz : j = 0 <;> simp [cx_up, wC, cs_u, hz, va_upE, Int.toNat_natCast, hi]
          | 12 => by_cases hz : j = 0 <;> simp [cx_up, wC, cs_u, hz, va_upE, Int.toNat_natCast, hi]
          | 13 => by_cases hz : j = 0 <;> simp [cx_up, wC, cs_u, hz, va_upE, Int.toNat_natCast, hi]
          | 14 => by_cases hj0 : j = i <;> simp [cx_up, wC, cs_u, va_upE, Int.toNat_natCast, hi, hj0]
          | 15 => by_cases hj0 : j = i <;> simp [cx_up, wC, cs_u, va_upE, Int.toNat_natCast, hi, hj0]
          | 16 => by_cases hj0 : j = i <;> simp [cx_up, wC, cs_u, va_upE, Int.toNat_natCast, hi, hj0]
          | k + 17 => simp [cx_up, wC]
        exact cx_zretM X B hsz hr hlk (Nat.le_of_ble_eq_true rfl) (Nat.le_of_ble_eq_true rfl) (by omega) (by omega) (by rw [jB_t hQ]) (hG) dc_C_aside_42
      · refine cx_iconst X dc_C_aside_33 ?_
        have hQ : ¬ (0 ≤ (i : Int) ∧ (i : Int) < S 0 0 0 ∧ S 14 (i : Int).toNat 0 = 0 ∧ 0 ≤ x ∧ x ≤ S 12 (i : Int).toNat 0) := by (try simp only [cs_nn]); omega
        exact cx_zretM X B hsz hr hlk (Nat.le_of_ble_eq_true rfl) (Nat.le_of_ble_eq_true rfl) (by omega) (by omega) (by rw [jB_f hQ]) (by rw [op_aside, if_neg hQ]) dc_C_aside_34
  · refine cx_cVN (As := [.int (jI (a))]) (rest := []) X B kc_C_findStock gm_C_62 (c_C_findStock_0 l u ad S sc hI a (by omega) (by omega) hs_1) (fun _ _ _ h => h) (wC_0 u ad S sc) rfl rfl ⟨(Nat.le_of_ble_eq_true rfl), (Nat.le_of_ble_eq_true rfl)⟩ ⟨(Nat.le_of_ble_eq_true rfl), (Nat.le_of_ble_eq_true rfl)⟩ rfl hl.1 (Nat.le_of_ble_eq_true rfl) dc_C_aside_2 rfl ?_
    refine lv_astoreN (lv' := [(4, .null), (0, .ref (ad 0 0)), (1, .int (jI (a))), (2, .long (jL (x)))]) X.1 X.2.1 dc_C_aside_5 hl (by decide) rfl (fun ls hl => ?_)
    refine lv_aloadN X.1 X.2.1 dc_C_aside_7 (lv_at hl 0 rfl) ?_
    refine lv_ifnullN (tgt := 33) X.1 X.2.1 dc_C_aside_9 (by decide) ?_
    refine cx_iconst X dc_C_aside_33 ?_
    have hQ : ¬ (0 ≤ a ∧ a < S 0 0 0 ∧ S 14 a.toNat 0 = 0 ∧ 0 ≤ x ∧ x ≤ S 12 a.toNat 0) := by (try simp only [cs_nn]); omega
    exact cx_zretM X B hsz hr hlk (Nat.le_of_ble_eq_true rfl) (Nat.le_of_ble_eq_true rfl) (by omega) (by omega) (by rw [jB_f hQ]) (by rw [op_aside, if_neg hQ]) dc_C_aside_34
set_option maxHeartbeats 4000000 in
set_option maxRecDepth 100000 in
theorem c_C_follows (l : Launch) (u : cx_U) (sz : Nat) (ad : Nat → Nat → Nat) (S : cs_S) (sc : Nat → Nat → Int) (hI : cs_I S) (a b : Int) (a1 : -2147483648 ≤ a) (a2 : a ≤ 2147483647) (b1 : -2147483648 ≤ b) (b2 : b ≤ 2147483647) : cx_M l u mn_C_follows bc_C_follows 5 (some .boolean) 1 21 [.ref (ad 0 0), .int (jI (a)), .int (jI (b))] (wC u ad S sc) sz (some (.int (jI (jB (0 ≤ a ∧ a < S 0 0 0 ∧ 0 ≤ b ∧ b < S 0 0 0 ∧ S 14 a.toNat 0 = 0 ∧ S 14 b.toNat 0 = 1 ∧ S 15 a.toNat 0 = -1))))) (fun w' => w' = wC u ad (op_follows S a b) sc) 0 0 := by
  refine cx_M.of (by decide +kernel) (Nat.le_of_ble_eq_true rfl) ?_
  intro p e s m args below meth c ls hsz X hr hlk hin B hl
  have X : CallFix p m c bc_C_follows 5 s args GW "CatchShares" := X
  have hl : lv_has ls 5 [(0, .ref (ad 0 0)), (1, .int (jI (a))), (2, .int (jI (b)))] := hl
  have hI1 := hI.1
  have hI5 := hI.2.2.2.2.1
  refine lv_aload_n X.1 X.2.1 dc_C_follows_0 rfl (lv_at hl 0 rfl) ?_
  refine lv_iload_n X.1 X.2.1 dc_C_follows_1 rfl (lv_at hl 1 rfl) ?_
  by_cases hs_1 : 0 ≤ a ∧ a < S 0 0 0
  · obtain ⟨i, rfl⟩ : ∃ i : Nat, a = (i : Int) := ⟨a.toNat, by omega⟩
    have hi : (i : Int) < S 0 0 0 := hs_1.2
    refine cx_cVN (As := [.int (jI (i : Int))]) (rest := []) X B kc_C_findStock gm_C_62 (c_C_findStock l u ad S sc hI i hi) (fun _ _ _ h => h) (wC_0 u ad S sc) rfl rfl ⟨(Nat.le_of_ble_eq_true rfl), (Nat.le_of_ble_eq_true rfl)⟩ ⟨(Nat.le_of_ble_eq_true rfl), (Nat.le_of_ble_eq_true rfl)⟩ rfl hl.1 (Nat.le_of_ble_eq_true rfl) dc_C_follows_2 rfl ?_
    refine lv_astore_n (lv' := [(3, .ref (ad 14 i)), (0, .ref (ad 0 0)), (1, .int (jI ((i : Int)))), (2, .int (jI (b)))]) X.1 X.2.1 dc_C_follows_5 rfl hl (by decide) rfl (fun ls hl => ?_)
    refine lv_aload_n X.1 X.2.1 dc_C_follows_6 rfl (lv_at hl 1 rfl) ?_
    refine lv_iload_n X.1 X.2.1 dc_C_follows_7 rfl (lv_at hl 3 rfl) ?_
    by_cases hs_2 : 0 ≤ b ∧ b < S 0 0 0
    · obtain ⟨k, rfl⟩ : ∃ k : Nat, b = (k : Int) := ⟨b.toNat, by omega⟩
      have hk : (k : Int) < S 0 0 0 := hs_2.2
      refine cx_cVN (As := [.int (jI (k : Int))]) (rest := []) X B kc_C_findStock gm_C_62 (c_C_findStock l u ad S sc hI k hk) (fun _ _ _ h => h) (wC_0 u ad S sc) rfl rfl ⟨(Nat.le_of_ble_eq_true rfl), (Nat.le_of_ble_eq_true rfl)⟩ ⟨(Nat.le_of_ble_eq_true rfl), (Nat.le_of_ble_eq_true rfl)⟩ rfl hl.1 (Nat.le_of_ble_eq_true rfl) dc_C_follows_8 rfl ?_
      refine lv_astore (lv' := [(4, .ref (ad 14 k)), (3, .ref (ad 14 i)), (0, .ref (ad 0 0)), (1, .int (jI ((i : Int)))), (2, .int (jI ((k : Int))))]) X.1 X.2.1 dc_C_follows_11 hl (by decide) rfl (fun ls hl => ?_)
      refine lv_aload_n X.1 X.2.1 dc_C_follows_13 rfl (lv_at hl 1 rfl) ?_
      refine lv_ifnull X.1 X.2.1 dc_C_follows_14 ?_
      refine lv_aload X.1 X.2.1 dc_C_follows_17 (lv_at hl 0 rfl) ?_
      refine lv_ifnull X.1 X.2.1 dc_C_follows_19 ?_
      refine lv_aload_n X.1 X.2.1 dc_C_follows_22 rfl (lv_at hl 1 rfl) ?_
      refine cx_get (v := .int (jI (S 14 i 0))) X B (wC_14 u ad S sc hi) rfl uw_S 5 (by decide) gf_C_69 rfl dc_C_follows_23 ?_
      have r_3 := hI5 i
      refine cx_if_ne (tgt := 45) X (by omega) (by omega) dc_C_follows_26 (by decide) (fun c_4 => ?_) (fun c_4 => ?_)
      · refine cx_iconst X dc_C_follows_45 ?_
        have hQ : ¬ (0 ≤ (i : Int) ∧ (i : Int) < S 0 0 0 ∧ 0 ≤ (k : Int) ∧ (k : Int) < S 0 0 0 ∧ S 14 (i : Int).toNat 0 = 0 ∧ S 14 (k : Int).toNat 0 = 1 ∧ S 15 (i : Int).toNat 0 = -1) := by (try simp only [cs_nn]); omega
        exact cx_zretM X B hsz hr hlk (Nat.le_of_ble_eq_true rfl) (Nat.le_of_ble_eq_true rfl) (by omega) (by omega) (by rw [jB_f hQ]) (by rw [op_follows, if_neg hQ]) dc_C_follows_46
      · refine lv_aload X.1 X.2.1 dc_C_follows_29 (lv_at hl 0 rfl) ?_
        refine cx_get (v := .int (jI (S 14 k 0))) X B (wC_14 u ad S sc hk) rfl uw_S 5 (by decide) gf_C_69 rfl dc_C_follows_31 ?_
        have r_5 := hI5 k
        refine cx_if_eq (tgt := 45) X (by omega) (by omega) dc_C_follows_34 (by decide) (fun c_6 => ?_) (fun c_6 => ?_)
        · refine cx_iconst X dc_C_follows_45 ?_
          have hQ : ¬ (0 ≤ (i : Int) ∧ (i : Int) < S 0 0 0 ∧ 0 ≤ (k : Int) ∧ (k : Int) < S 0 0 0 ∧ S 14 (i : Int).toNat 0 = 0 ∧ S 14 (k : Int).toNat 0 = 1 ∧ S 15 (i : Int).toNat 0 = -1) := by (try simp only [cs_nn]); omega
          exact cx_zretM X B hsz hr hlk (Nat.le_of_ble_eq_true rfl) (Nat.le_of_ble_eq_true rfl) (by omega) (by omega) (by rw [jB_f hQ]) (by rw [op_follows, if_neg hQ]) dc_C_follows_46
        · refine lv_aload_n X.1 X.2.1 dc_C_follows_37 rfl (lv_at hl 1 rfl) ?_
          refine cx_get (v := .int (jI (S 15 i 0))) X B (wC_14 u ad S sc hi) rfl uw_S 6 (by decide) gf_C_86 rfl dc_C_follows_38 ?_
          have r_7 := hI5 i
          refine cx_iconst X dc_C_follows_41 ?_
          refine cx_icmp_eq (tgt := 47) X (by omega) (by omega) (by omega) (by omega) dc_C_follows_42 (by decide) (fun c_8 => ?_) (fun c_8 => ?_)
          · refine lv_aload_n X.1 X.2.1 dc_C_follows_47 rfl (lv_at hl 1 rfl) ?_
            refine lv_iload_n X.1 X.2.1 dc_C_follows_48 rfl (lv_at hl 4 rfl) ?_
            refine cx_put (v := .int (jI ((k : Int)))) X B (wC_14 u ad S sc hi) rfl uw_S ft_S fo_S fn_S 6 (by decide) gf_C_86 rfl (fo_S 6 (by decide)) rfl rfl (Nat.le_of_ble_eq_true rfl) dc_C_follows_49 (fun H locs B => ?_)
            have B : cx_B u (cx_A (wC u ad S sc) sz) (cx_up (wC u ad S sc) 14 i (ad 14 i, .inr (2, [.int (jI ((i : Int))), .long (jL (S 12 i 0)), .ref (ad 15 i), .ref (ad 16 i), .long (jL (S 13 i 0)), .int (jI (S 14 i 0)), .int (jI ((k : Int))), .int (jI (S 16 i 0)), .long (jL (S 17 i 0)), .long (jL (S 18 i 0)), .long (jL (S 22 i 0))]))) s H locs := B
            refine cx_iconst X dc_C_follows_52 ?_
            have hQ : 0 ≤ (i : Int) ∧ (i : Int) < S 0 0 0 ∧ 0 ≤ (k : Int) ∧ (k : Int) < S 0 0 0 ∧ S 14 (i : Int).toNat 0 = 0 ∧ S 14 (k : Int).toNat 0 = 1 ∧ S 15 (i : Int).toNat 0 = -1 := by (try simp only [cs_nn]); omega
            have hG : cx_up (wC u ad S sc) 14 i (ad 14 i, .inr (2, [.int (jI ((i : Int))), .long (jL (S 12 i 0)), .ref (ad 15 i), .ref (ad 16 i), .long (jL (S 13 i 0)), .int (jI (S 14 i 0)), .int (jI ((k : Int))), .int (jI (S 16 i 0)), .long (jL (S 17 i 0)), .long (jL (S 18 i 0)), .long (jL (S 22 i 0))])) = wC u ad (op_follows S (i : Int) (k : Int)) sc := by
              rw [op_follows, if_pos hQ]
              funext k j
              match k with
              | 0 => by_cases hz : j = 0 <;> simp [cx_up, wC, cs_u, hz, va_upE, Int.toNat_natCast, hi]
              | 1 => by_cases hz : j = 0 <;> simp [cx_up, wC, cs_u, hz, va_upE, Int.toNat_natCast, hi]
              | 2 => by_cases hz : j = 0 <;> simp [cx_up, wC, cs_u, hz, va_upE, Int.toNat_natCast, hi]
              | 3 => by_cases hz : j = 0 <;> simp [cx_up, wC, cs_u, hz, va_upE, Int.toNat_natCast, hi]
              | 4 => by_cases hz : j = 0 <;> simp [cx_up, wC, cs_u, hz, va_upE, Int.toNat_natCast, hi]
              | 5 => by_cases hz : j = 0 <;> simp [cx_up, wC, cs_u, hz, va_upE, Int.toNat_natCast, hi]
              | 6 => by_cases hz : j = 0 <;> simp [cx_up, wC, cs_u, hz, va_upE, Int.toNat_natCast, hi]
              | 7 => by_cases hz : j = 0 <;> simp [cx_up, wC, cs_u, hz, va_upE, Int.toNat_natCast, hi]
              | 8 => by_cases hz : j = 0 <;> simp [cx_up, wC, cs_u, hz, va_upE, Int.toNat_natCast, hi]
              | 9 => by_cases hz : j = 0 <;> simp [cx_up, wC, cs_u, hz, va_upE, Int.toNat_natCast, hi]
              | 10 => by_cases hz : j = 0 <;> simp [cx_up, wC, cs_u, hz, va_upE, Int.toNat_natCast, hi]
              | 11 => by_cases hz : j = 0 <;> simp [cx_up, wC, cs_u, hz, va_upE, Int.toNat_natCast, hi]
              | 12 => by_cases hz : j = 0 <;> simp [cx_up, wC, cs_u, hz, va_upE, Int.toNat_natCast, hi]
              | 13 => by_cases hz : j = 0 <;> simp [cx_up, wC, cs_u, hz, va_upE, Int.toNat_natCast, hi]
              | 14 => by_cases hj0 : j = i <;> simp [cx_up, wC, cs_u, va_upE, Int.toNat_natCast, hi, hj0]
              | 15 => by_cases hj0 : j = i <;> simp [cx_up, wC, cs_u, va_upE, Int.toNat_natCast, hi, hj0]
              | 16 => by_cases hj0 : j = i <;> simp [cx_up, wC, cs_u, va_upE, Int.toNat_natCast, hi, hj0]
              | k + 17 => simp [cx_up, wC]
            exact cx_zretM X B hsz hr hlk (Nat.le_of_ble_eq_true rfl) (Nat.le_of_ble_eq_true rfl) (by omega) (by omega) (by rw [jB_t hQ]) (hG) dc_C_follows_53
          · refine cx_iconst X dc_C_follows_45 ?_
            have hQ : ¬ (0 ≤ (i : Int) ∧ (i : Int) < S 0 0 0 ∧ 0 ≤ (k : Int) ∧ (k : Int) < S 0 0 0 ∧ S 14 (i : Int).toNat 0 = 0 ∧ S 14 (k : Int).toNat 0 = 1 ∧ S 15 (i : Int).toNat 0 = -1) := by (try simp only [cs_nn]); omega
            exact cx_zretM X B hsz hr hlk (Nat.le_of_ble_eq_true rfl) (Nat.le_of_ble_eq_true rfl) (by omega) (by omega) (by rw [jB_f hQ]) (by rw [op_follows, if_neg hQ]) dc_C_follows_46
    · refine cx_cVN (As := [.int (jI (b))]) (rest := []) X B kc_C_findStock gm_C_62 (c_C_findStock_0 l u ad S sc hI b (by omega) (by omega) hs_2) (fun _ _ _ h => h) (wC_0 u ad S sc) rfl rfl ⟨(Nat.le_of_ble_eq_true rfl), (Nat.le_of_ble_eq_true rfl)⟩ ⟨(Nat.le_of_ble_eq_true rfl), (Nat.le_of_ble_eq_true rfl)⟩ rfl hl.1 (Nat.le_of_ble_eq_true rfl) dc_C_follows_8 rfl ?_
      refine lv_astoreN (lv' := [(4, .null), (3, .ref (ad 14 i)), (0, .ref (ad 0 0)), (1, .int (jI ((i : Int)))), (2, .int (jI (b)))]) X.1 X.2.1 dc_C_follows_11 hl (by decide) rfl (fun ls hl => ?_)
      refine lv_aload_n X.1 X.2.1 dc_C_follows_13 rfl (lv_at hl 1 rfl) ?_
      refine lv_ifnull X.1 X.2.1 dc_C_follows_14 ?_
      refine lv_aloadN X.1 X.2.1 dc_C_follows_17 (lv_at hl 0 rfl) ?_
      refine lv_ifnullN (tgt := 45) X.1 X.2.1 dc_C_follows_19 (by decide) ?_
      refine cx_iconst X dc_C_follows_45 ?_
      have hQ : ¬ (0 ≤ (i : Int) ∧ (i : Int) < S 0 0 0 ∧ 0 ≤ b ∧ b < S 0 0 0 ∧ S 14 (i : Int).toNat 0 = 0 ∧ S 14 b.toNat 0 = 1 ∧ S 15 (i : Int).toNat 0 = -1) := by (try simp only [cs_nn]); omega
      exact cx_zretM X B hsz hr hlk (Nat.le_of_ble_eq_true rfl) (Nat.le_of_ble_eq_true rfl) (by omega) (by omega) (by rw [jB_f hQ]) (by rw [op_follows, if_neg hQ]) dc_C_follows_46
  · refine cx_cVN (As := [.int (jI (a))]) (rest := []) X B kc_C_findStock gm_C_62 (c_C_findStock_0 l u ad S sc hI a (by omega) (by omega) hs_1) (fun _ _ _ h => h) (wC_0 u ad S sc) rfl rfl ⟨(Nat.le_of_ble_eq_true rfl), (Nat.le_of_ble_eq_true rfl)⟩ ⟨(Nat.le_of_ble_eq_true rfl), (Nat.le_of_ble_eq_true rfl)⟩ rfl hl.1 (Nat.le_of_ble_eq_true rfl) dc_C_follows_2 rfl ?_
    refine lv_astore_nN (lv' := [(3, .null), (0, .ref (ad 0 0)), (1, .int (jI (a))), (2, .int (jI (b)))]) X.1 X.2.1 dc_C_follows_5 rfl hl (by decide) rfl (fun ls hl => ?_)
    refine lv_aload_n X.1 X.2.1 dc_C_follows_6 rfl (lv_at hl 1 rfl) ?_
    refine lv_iload_n X.1 X.2.1 dc_C_follows_7 rfl (lv_at hl 3 rfl) ?_
    by_cases hs_9 : 0 ≤ b ∧ b < S 0 0 0
    · obtain ⟨k, rfl⟩ : ∃ k : Nat, b = (k : Int) := ⟨b.toNat, by omega⟩
      have hk : (k : Int) < S 0 0 0 := hs_9.2
      refine cx_cVN (As := [.int (jI (k : Int))]) (rest := []) X B kc_C_findStock gm_C_62 (c_C_findStock l u ad S sc hI k hk) (fun _ _ _ h => h) (wC_0 u ad S sc) rfl rfl ⟨(Nat.le_of_ble_eq_true rfl), (Nat.le_of_ble_eq_true rfl)⟩ ⟨(Nat.le_of_ble_eq_true rfl), (Nat.le_of_ble_eq_true rfl)⟩ rfl hl.1 (Nat.le_of_ble_eq_true rfl) dc_C_follows_8 rfl ?_
      refine lv_astore (lv' := [(4, .ref (ad 14 k)), (3, .null), (0, .ref (ad 0 0)), (1, .int (jI (a))), (2, .int (jI ((k : Int))))]) X.1 X.2.1 dc_C_follows_11 hl (by decide) rfl (fun ls hl => ?_)
      refine lv_aload_nN X.1 X.2.1 dc_C_follows_13 rfl (lv_at hl 1 rfl) ?_
      refine lv_ifnullN (tgt := 45) X.1 X.2.1 dc_C_follows_14 (by decide) ?_
      refine cx_iconst X dc_C_follows_45 ?_
      have hQ : ¬ (0 ≤ a ∧ a < S 0 0 0 ∧ 0 ≤ (k : Int) ∧ (k : Int) < S 0 0 0 ∧ S 14 a.toNat 0 = 0 ∧ S 14 (k : Int).toNat 0 = 1 ∧ S 15 a.toNat 0 = -1) := by (try simp only [cs_nn]); omega
      exact cx_zretM X B hsz hr hlk (Nat.le_of_ble_eq_true rfl) (Nat.le_of_ble_eq_true rfl) (by omega) (by omega) (by rw [jB_f hQ]) (by rw [op_follows, if_neg hQ]) dc_C_follows_46
    · refine cx_cVN (As := [.int (jI (b))]) (rest := []) X B kc_C_findStock gm_C_62 (c_C_findStock_0 l u ad S sc hI b (by omega) (by omega) hs_9) (fun _ _ _ h => h) (wC_0 u ad S sc) rfl rfl ⟨(Nat.le_of_ble_eq_true rfl), (Nat.le_of_ble_eq_true rfl)⟩ ⟨(Nat.le_of_ble_eq_true rfl), (Nat.le_of_ble_eq_true rfl)⟩ rfl hl.1 (Nat.le_of_ble_eq_true rfl) dc_C_follows_8 rfl ?_
      refine lv_astoreN (lv' := [(4, .null), (3, .null), (0, .ref (ad 0 0)), (1, .int (jI (a))), (2, .int (jI (b)))]) X.1 X.2.1 dc_C_follows_11 hl (by decide) rfl (fun ls hl => ?_)
      refine lv_aload_nN X.1 X.2.1 dc_C_follows_13 rfl (lv_at hl 1 rfl) ?_
      refine lv_ifnullN (tgt := 45) X.1 X.2.1 dc_C_follows_14 (by decide) ?_
      refine cx_iconst X dc_C_follows_45 ?_
      have hQ : ¬ (0 ≤ a ∧ a < S 0 0 0 ∧ 0 ≤ b ∧ b < S 0 0 0 ∧ S 14 a.toNat 0 = 0 ∧ S 14 b.toNat 0 = 1 ∧ S 15 a.toNat 0 = -1) := by (try simp only [cs_nn]); omega
      exact cx_zretM X B hsz hr hlk (Nat.le_of_ble_eq_true rfl) (Nat.le_of_ble_eq_true rfl) (by omega) (by omega) (by rw [jB_f hQ]) (by rw [op_follows, if_neg hQ]) dc_C_follows_46
set_option maxHeartbeats 4000000 in
set_option maxRecDepth 100000 in
theorem c_C_seen (l : Launch) (u : cx_U) (sz : Nat) (ad : Nat → Nat → Nat) (S : cs_S) (sc : Nat → Nat → Int) (hI : cs_I S) (a x y : Int) (a1 : -2147483648 ≤ a) (a2 : a ≤ 2147483647) (x1 : -9223372036854775808 ≤ x) (x2 : x ≤ 9223372036854775807) (y1 : -9223372036854775808 ≤ y) (y2 : y ≤ 9223372036854775807) : cx_M l u mn_C_seen bc_C_seen 7 (some .boolean) 1 25 [.ref (ad 0 0), .int (jI (a)), .long (jL (x)), .long (jL (y))] (wC u ad S sc) sz (some (.int (jI (jB (0 ≤ a ∧ a < S 0 0 0 ∧ 0 ≤ x ∧ x ≤ 1000000 ∧ 0 ≤ y ∧ y ≤ 1000000 ∧ S 17 a.toNat 0 + x ≤ 1000000 ∧ S 18 a.toNat 0 + y ≤ 1000000))))) (fun w' => w' = wC u ad (op_seen S a x y) sc) 0 0 := by
  refine cx_M.of (by decide +kernel) (Nat.le_of_ble_eq_true rfl) ?_
  intro p e s m args below meth c ls hsz X hr hlk hin B hl
  have X : CallFix p m c bc_C_seen 7 s args GW "CatchShares" := X
  have hl : lv_has ls 7 [(0, .ref (ad 0 0)), (1, .int (jI (a))), (2, .long (jL (x))), (4, .long (jL (y)))] := hl
  have hI1 := hI.1
  have hI5 := hI.2.2.2.2.1
  refine lv_aload_n X.1 X.2.1 dc_C_seen_0 rfl (lv_at hl 0 rfl) ?_
  refine lv_iload_n X.1 X.2.1 dc_C_seen_1 rfl (lv_at hl 1 rfl) ?_
  by_cases hs_1 : 0 ≤ a ∧ a < S 0 0 0
  · obtain ⟨i, rfl⟩ : ∃ i : Nat, a = (i : Int) := ⟨a.toNat, by omega⟩
    have hi : (i : Int) < S 0 0 0 := hs_1.2
    refine cx_cVN (As := [.int (jI (i : Int))]) (rest := []) X B kc_C_findStock gm_C_62 (c_C_findStock l u ad S sc hI i hi) (fun _ _ _ h => h) (wC_0 u ad S sc) rfl rfl ⟨(Nat.le_of_ble_eq_true rfl), (Nat.le_of_ble_eq_true rfl)⟩ ⟨(Nat.le_of_ble_eq_true rfl), (Nat.le_of_ble_eq_true rfl)⟩ rfl hl.1 (Nat.le_of_ble_eq_true rfl) dc_C_seen_2 rfl ?_
    refine lv_astore (lv' := [(6, .ref (ad 14 i)), (0, .ref (ad 0 0)), (1, .int (jI ((i : Int)))), (2, .long (jL (x))), (4, .long (jL (y)))]) X.1 X.2.1 dc_C_seen_5 hl (by decide) rfl (fun ls hl => ?_)
    refine lv_aload X.1 X.2.1 dc_C_seen_7 (lv_at hl 0 rfl) ?_
    refine lv_ifnull X.1 X.2.1 dc_C_seen_9 ?_
    refine lv_lload_n X.1 X.2.1 dc_C_seen_12 rfl (lv_at hl 3 rfl) ?_
    refine cx_lconst (a := 0) X dc_C_seen_13 (by decide +kernel) ?_
    refine cx_ldc2 (a := 1000000) X gk_C_73 (by decide +kernel) dc_C_seen_14 ?_
    refine cx_cSN (r := .int (jI (jB (0 ≤ x ∧ x ≤ 1000000)))) (As := [.long (jL (x)), .long (jL (0)), .long (jL (1000000))]) (rest := []) X B kc_C_isWithin gm_C_48 (c_C_isWithin l u _ x 0 1000000 (by omega) (by omega) (by omega) (by omega) (by omega) (by omega)) (fun _ _ _ h => h) ⟨(Nat.le_of_ble_eq_true rfl), (Nat.le_of_ble_eq_true rfl)⟩ ⟨(Nat.le_of_ble_eq_true rfl), (Nat.le_of_ble_eq_true rfl)⟩ rfl hl.1 (Nat.le_of_ble_eq_true rfl) dc_C_seen_17 rfl ?_
    refine cx_ifeqB (tgt := 35) X dc_C_seen_20 (by decide) (fun c_2 => ?_) (fun c_2 => ?_)
    · refine cx_iconst X dc_C_seen_35 ?_
      have hQ : ¬ (0 ≤ (i : Int) ∧ (i : Int) < S 0 0 0 ∧ 0 ≤ x ∧ x ≤ 1000000 ∧ 0 ≤ y ∧ y ≤ 1000000 ∧ S 17 (i : Int).toNat 0 + x ≤ 1000000 ∧ S 18 (i : Int).toNat 0 + y ≤ 1000000) := by (try simp only [cs_nn]); omega
      exact cx_zretM X B hsz hr hlk (Nat.le_of_ble_eq_true rfl) (Nat.le_of_ble_eq_true rfl) (by omega) (by omega) (by rw [jB_f hQ]) (by rw [op_seen, if_neg hQ]) dc_C_seen_36
    · refine lv_lload X.1 X.2.1 dc_C_seen_23 (lv_at hl 4 rfl) ?_
      refine cx_lconst (a := 0) X dc_C_seen_25 (by decide +kernel) ?_
      refine cx_ldc2 (a := 1000000) X gk_C_73 (by decide +kernel) dc_C_seen_26 ?_
      refine cx_cSN (r := .int (jI (jB (0 ≤ y ∧ y ≤ 1000000)))) (As := [.long (jL (y)), .long (jL (0)), .long (jL (1000000))]) (rest := []) X B kc_C_isWithin gm_C_48 (c_C_isWithin l u _ y 0 1000000 (by omega) (by omega) (by omega) (by omega) (by omega) (by omega)) (fun _ _ _ h => h) ⟨(Nat.le_of_ble_eq_true rfl), (Nat.le_of_ble_eq_true rfl)⟩ ⟨(Nat.le_of_ble_eq_true rfl), (Nat.le_of_ble_eq_true rfl)⟩ rfl hl.1 (Nat.le_of_ble_eq_true rfl) dc_C_seen_29 rfl ?_
      refine cx_ifneB (tgt := 37) X dc_C_seen_32 (by decide) (fun c_3 => ?_) (fun c_3 => ?_)
      · refine lv_aload X.1 X.2.1 dc_C_seen_37 (lv_at hl 0 rfl) ?_
        refine cx_get (v := .long (jL (S 17 i 0))) X B (wC_14 u ad S sc hi) rfl uw_S 8 (by decide) gf_C_179 rfl dc_C_seen_39 ?_
        have r_4 := hI5 i
        refine lv_lload_n X.1 X.2.1 dc_C_seen_42 rfl (lv_at hl 3 rfl) ?_
        refine cx_ladd X dc_C_seen_43 ?_
        refine cx_ldc2 (a := 1000000) X gk_C_73 (by decide +kernel) dc_C_seen_44 ?_
        refine cx_lcmp_gt (tgt := 66) X (by omega) (by omega) (by omega) (by omega) dc_C_seen_47 dc_C_seen_48 (by decide) (fun c_5 => ?_) (fun c_5 => ?_)
        · refine cx_iconst X dc_C_seen_66 ?_
          have hQ : ¬ (0 ≤ (i : Int) ∧ (i : Int) < S 0 0 0 ∧ 0 ≤ x ∧ x ≤ 1000000 ∧ 0 ≤ y ∧ y ≤ 1000000 ∧ S 17 (i : Int).toNat 0 + x ≤ 1000000 ∧ S 18 (i : Int).toNat 0 + y ≤ 1000000) := by (try simp only [cs_nn]); omega
          exact cx_zretM X B hsz hr hlk (Nat.le_of_ble_eq_true rfl) (Nat.le_of_ble_eq_true rfl) (by omega) (by omega) (by rw [jB_f hQ]) (by rw [op_seen, if_neg hQ]) dc_C_seen_67
        · refine lv_aload X.1 X.2.1 dc_C_seen_51 (lv_at hl 0 rfl) ?_
          refine cx_get (v := .long (jL (S 18 i 0))) X B (wC_14 u ad S sc hi) rfl uw_S 9 (by decide) gf_C_182 rfl dc_C_seen_53 ?_
          have r_6 := hI5 i
          refine lv_lload X.1 X.2.1 dc_C_seen_56 (lv_at hl 4 rfl) ?_
          refine cx_ladd X dc_C_seen_58 ?_
          refine cx_ldc2 (a := 1000000) X gk_C_73 (by decide +kernel) dc_C_seen_59 ?_
          refine cx_lcmp_le (tgt := 68) X (by omega) (by omega) (by omega) (by omega) dc_C_seen_62 dc_C_seen_63 (by decide) (fun c_7 => ?_) (fun c_7 => ?_)
          · refine lv_aload X.1 X.2.1 dc_C_seen_68 (lv_at hl 0 rfl) ?_
            refine lv_dup X.1 X.2.1 dc_C_seen_70 rfl ?_
            refine cx_get (v := .long (jL (S 17 i 0))) X B (wC_14 u ad S sc hi) rfl uw_S 8 (by decide) gf_C_179 rfl dc_C_seen_71 ?_
            have r_8 := hI5 i
            refine lv_lload_n X.1 X.2.1 dc_C_seen_74 rfl (lv_at hl 3 rfl) ?_
            refine cx_ladd X dc_C_seen_75 ?_
            refine cx_put (v := .long (jL ((S 17 i 0) + x))) X B (wC_14 u ad S sc hi) rfl uw_S ft_S fo_S fn_S 8 (by decide) gf_C_179 rfl (fo_S 8 (by decide)) rfl rfl (Nat.le_of_ble_eq_true rfl) dc_C_seen_76 (fun H locs B => ?_)
            have B : cx_B u (cx_A (wC u ad S sc) sz) (cx_up (wC u ad S sc) 14 i (ad 14 i, .inr (2, [.int (jI ((i : Int))), .long (jL (S 12 i 0)), .ref (ad 15 i), .ref (ad 16 i), .long (jL (S 13 i 0)), .int (jI (S 14 i 0)), .int (jI (S 15 i 0)), .int (jI (S 16 i 0)), .long (jL ((S 17 i 0) + x)), .long (jL (S 18 i 0)), .long (jL (S 22 i 0))]))) s H locs := B
            refine lv_aload X.1 X.2.1 dc_C_seen_79 (lv_at hl 0 rfl) ?_
            refine lv_dup X.1 X.2.1 dc_C_seen_81 rfl ?_
            refine cx_get (v := .long (jL (S 18 i 0))) X B (cx_up_s _ _ _ _) rfl uw_S 9 (by decide) gf_C_182 rfl dc_C_seen_82 ?_
            have r_9 := hI5 i
            refine lv_lload X.1 X.2.1 dc_C_seen_85 (lv_at hl 4 rfl) ?_
            refine cx_ladd X dc_C_seen_87 ?_
            refine cx_put (v := .long (jL ((S 18 i 0) + y))) X B (cx_up_s _ _ _ _) rfl uw_S ft_S fo_S fn_S 9 (by decide) gf_C_182 rfl (fo_S 9 (by decide)) rfl rfl (Nat.le_of_ble_eq_true rfl) dc_C_seen_88 (fun H locs B => ?_)
            have B : cx_B u (cx_A (wC u ad S sc) sz) (cx_up (cx_up (wC u ad S sc) 14 i (ad 14 i, .inr (2, [.int (jI ((i : Int))), .long (jL (S 12 i 0)), .ref (ad 15 i), .ref (ad 16 i), .long (jL (S 13 i 0)), .int (jI (S 14 i 0)), .int (jI (S 15 i 0)), .int (jI (S 16 i 0)), .long (jL ((S 17 i 0) + x)), .long (jL (S 18 i 0)), .long (jL (S 22 i 0))]))) 14 i (ad 14 i, .inr (2, [.int (jI ((i : Int))), .long (jL (S 12 i 0)), .ref (ad 15 i), .ref (ad 16 i), .long (jL (S 13 i 0)), .int (jI (S 14 i 0)), .int (jI (S 15 i 0)), .int (jI (S 16 i 0)), .long (jL ((S 17 i 0) + x)), .long (jL ((S 18 i 0) + y)), .long (jL (S 22 i 0))]))) s H locs := B
            refine cx_iconst X dc_C_seen_91 ?_
            have hQ : 0 ≤ (i : Int) ∧ (i : Int) < S 0 0 0 ∧ 0 ≤ x ∧ x ≤ 1000000 ∧ 0 ≤ y ∧ y ≤ 1000000 ∧ S 17 (i : Int).toNat 0 + x ≤ 1000000 ∧ S 18 (i : Int).toNat 0 + y ≤ 1000000 := by (try simp only [cs_nn]); omega
            have hG : cx_up (cx_up (wC u ad S sc) 14 i (ad 14 i, .inr (2, [.int (jI ((i : Int))), .long (jL (S 12 i 0)), .ref (ad 15 i), .ref (ad 16 i), .long (jL (S 13 i 0)), .int (jI (S 14 i 0)), .int (jI (S 15 i 0)), .int (jI (S 16 i 0)), .long (jL ((S 17 i 0) + x)), .long (jL (S 18 i 0)), .long (jL (S 22 i 0))]))) 14 i (ad 14 i, .inr (2, [.int (jI ((i : Int))), .long (jL (S 12 i 0)), .ref (ad 15 i), .ref (ad 16 i), .long (jL (S 13 i 0)), .int (jI (S 14 i 0)), .int (jI (S 15 i 0)), .int (jI (S 16 i 0)), .long (jL ((S 17 i 0) + x)), .long (jL ((S 18 i 0) + y)), .long (jL (S 22 i 0))])) = wC u ad (op_seen S (i : Int) x y) sc := by
              rw [op_seen, if_pos hQ]
              funext k j
              match k with
              | 0 => by_cases hz : j = 0 <;> simp [cx_up, wC, cs_u, hz, va_upE, Int.toNat_natCast, hi]
              | 1 => by_cases hz : j = 0 <;> simp [cx_up, wC, cs_u, hz, va_upE, Int.toNat_natCast, hi]
              | 2 => by_cases hz : j = 0 <;> simp [cx_up, wC, cs_u, hz, va_upE, Int.toNat_natCast, hi]
              | 3 => by_cases hz : j = 0 <;> simp [cx_up, wC, cs_u, hz, va_upE, Int.toNat_natCast, hi]
              | 4 => by_cases hz : j = 0 <;> simp [cx_up, wC, cs_u, hz, va_upE, Int.toNat_natCast, hi]
              | 5 => by_cases hz : j = 0 <;> simp [cx_up, wC, cs_u, hz, va_upE, Int.toNat_natCast, hi]
              | 6 => by_cases hz : j = 0 <;> simp [cx_up, wC, cs_u, hz, va_upE, Int.toNat_natCast, hi]
              | 7 => by_cases hz : j = 0 <;> simp [cx_up, wC, cs_u, hz, va_upE, Int.toNat_natCast, hi]
              | 8 => by_cases hz : j = 0 <;> simp [cx_up, wC, cs_u, hz, va_upE, Int.toNat_natCast, hi]
              | 9 => by_cases hz : j = 0 <;> simp [cx_up, wC, cs_u, hz, va_upE, Int.toNat_natCast, hi]
              | 10 => by_cases hz : j = 0 <;> simp [cx_up, wC, cs_u, hz, va_upE, Int.toNat_natCast, hi]
              | 11 => by_cases hz : j = 0 <;> simp [cx_up, wC, cs_u, hz, va_upE, Int.toNat_natCast, hi]
              | 12 => by_cases hz : j = 0 <;> simp [cx_up, wC, cs_u, hz, va_upE, Int.toNat_natCast, hi]
              | 13 => by_cases hz : j = 0 <;> simp [cx_up, wC, cs_u, hz, va_upE, Int.toNat_natCast, hi]
              | 14 => by_cases hj0 : j = i <;> simp [cx_up, wC, cs_u, va_upE, Int.toNat_natCast, hi, hj0]
              | 15 => by_cases hj0 : j = i <;> simp [cx_up, wC, cs_u, va_upE, Int.toNat_natCast, hi, hj0]
              | 16 => by_cases hj0 : j = i <;> simp [cx_up, wC, cs_u, va_upE, Int.toNat_natCast, hi, hj0]
              | k + 17 => simp [cx_up, wC]
            exact cx_zretM X B hsz hr hlk (Nat.le_of_ble_eq_true rfl) (Nat.le_of_ble_eq_true rfl) (by omega) (by omega) (by rw [jB_t hQ]) (hG) dc_C_seen_92
          · refine cx_iconst X dc_C_seen_66 ?_
            have hQ : ¬ (0 ≤ (i : Int) ∧ (i : Int) < S 0 0 0 ∧ 0 ≤ x ∧ x ≤ 1000000 ∧ 0 ≤ y ∧ y ≤ 1000000 ∧ S 17 (i : Int).toNat 0 + x ≤ 1000000 ∧ S 18 (i : Int).toNat 0 + y ≤ 1000000) := by (try simp only [cs_nn]); omega
            exact cx_zretM X B hsz hr hlk (Nat.le_of_ble_eq_true rfl) (Nat.le_of_ble_eq_true rfl) (by omega) (by omega) (by rw [jB_f hQ]) (by rw [op_seen, if_neg hQ]) dc_C_seen_67
      · refine cx_iconst X dc_C_seen_35 ?_
        have hQ : ¬ (0 ≤ (i : Int) ∧ (i : Int) < S 0 0 0 ∧ 0 ≤ x ∧ x ≤ 1000000 ∧ 0 ≤ y ∧ y ≤ 1000000 ∧ S 17 (i : Int).toNat 0 + x ≤ 1000000 ∧ S 18 (i : Int).toNat 0 + y ≤ 1000000) := by (try simp only [cs_nn]); omega
        exact cx_zretM X B hsz hr hlk (Nat.le_of_ble_eq_true rfl) (Nat.le_of_ble_eq_true rfl) (by omega) (by omega) (by rw [jB_f hQ]) (by rw [op_seen, if_neg hQ]) dc_C_seen_36
  · refine cx_cVN (As := [.int (jI (a))]) (rest := []) X B kc_C_findStock gm_C_62 (c_C_findStock_0 l u ad S sc hI a (by omega) (by omega) hs_1) (fun _ _ _ h => h) (wC_0 u ad S sc) rfl rfl ⟨(Nat.le_of_ble_eq_true rfl), (Nat.le_of_ble_eq_true rfl)⟩ ⟨(Nat.le_of_ble_eq_true rfl), (Nat.le_of_ble_eq_true rfl)⟩ rfl hl.1 (Nat.le_of_ble_eq_true rfl) dc_C_seen_2 rfl ?_
    refine lv_astoreN (lv' := [(6, .null), (0, .ref (ad 0 0)), (1, .int (jI (a))), (2, .long (jL (x))), (4, .long (jL (y)))]) X.1 X.2.1 dc_C_seen_5 hl (by decide) rfl (fun ls hl => ?_)
    refine lv_aloadN X.1 X.2.1 dc_C_seen_7 (lv_at hl 0 rfl) ?_
    refine lv_ifnullN (tgt := 35) X.1 X.2.1 dc_C_seen_9 (by decide) ?_
    refine cx_iconst X dc_C_seen_35 ?_
    have hQ : ¬ (0 ≤ a ∧ a < S 0 0 0 ∧ 0 ≤ x ∧ x ≤ 1000000 ∧ 0 ≤ y ∧ y ≤ 1000000 ∧ S 17 a.toNat 0 + x ≤ 1000000 ∧ S 18 a.toNat 0 + y ≤ 1000000) := by (try simp only [cs_nn]); omega
    exact cx_zretM X B hsz hr hlk (Nat.le_of_ble_eq_true rfl) (Nat.le_of_ble_eq_true rfl) (by omega) (by omega) (by rw [jB_f hQ]) (by rw [op_seen, if_neg hQ]) dc_C_seen_36
set_option maxHeartbeats 4000000 in
set_option maxRecDepth 100000 in
theorem c_C_holder (l : Launch) (u : cx_U) (sz : Nat) (ad : Nat → Nat → Nat) (S : cs_S) (sc : Nat → Nat → Int) (hI : cs_I S) (a : Int) (a1 : -2147483648 ≤ a) (a2 : a ≤ 2147483647) : cx_M l u mn_C_holder bc_C_holder 3 (some .int) 1 20 [.ref (ad 0 0), .int (jI (a))] (wC u ad S sc) sz (some (.int (jI (cs_holderQ S a)))) (fun w' => w' = wC u ad (op_holder S a) sc) 0 0 := by
  refine cx_M.of (by decide +kernel) (Nat.le_of_ble_eq_true rfl) ?_
  intro p e s m args below meth c ls hsz X hr hlk hin B hl
  have X : CallFix p m c bc_C_holder 3 s args GW "CatchShares" := X
  have hl : lv_has ls 3 [(0, .ref (ad 0 0)), (1, .int (jI (a)))] := hl
  have hI1 := hI.1
  obtain ⟨n, hn⟩ : ∃ n : Nat, S 1 0 0 = (n : Int) := ⟨(S 1 0 0).toNat, by omega⟩
  have hnn : (S 1 0 0).toNat = n := by omega
  refine lv_aload_n X.1 X.2.1 dc_C_holder_0 rfl (lv_at hl 0 rfl) ?_
  refine cx_get (v := .int (jI (S 1 0 0))) X B (wC_0 u ad S sc) rfl uw_C 4 (by decide) gf_C_55 rfl dc_C_holder_1 ?_
  refine cx_bipush X dc_C_holder_4 (by decide +kernel) ?_
  refine cx_icmp_ge (tgt := 16) X (by omega) (by omega) (by omega) (by omega) dc_C_holder_6 (by decide) (fun c_1 => ?_) (fun c_1 => ?_)
  · refine cx_iconst X dc_C_holder_16 ?_
    have hQ : ¬ (S 1 0 0 < 12 ∧ 0 ≤ a ∧ a < 10) := by omega
    exact cx_iretM X B hsz hr hlk (Nat.le_of_ble_eq_true rfl) (Nat.le_of_ble_eq_true rfl) (by rw [cs_holderQ, if_neg hQ]) (by rw [op_holder, if_neg hQ]) dc_C_holder_17
  · refine lv_iload_n X.1 X.2.1 dc_C_holder_9 rfl (lv_at hl 1 rfl) ?_
    refine cx_cSN (r := .int (jI (jB (0 ≤ a ∧ a < 10)))) (As := [.int (jI (a))]) (rest := []) X B kc_C_isOwner gm_C_58 (c_C_isOwner l u _ a (by omega) (by omega)) (fun _ _ _ h => h) ⟨(Nat.le_of_ble_eq_true rfl), (Nat.le_of_ble_eq_true rfl)⟩ ⟨(Nat.le_of_ble_eq_true rfl), (Nat.le_of_ble_eq_true rfl)⟩ rfl hl.1 (Nat.le_of_ble_eq_true rfl) dc_C_holder_10 rfl ?_
    refine cx_ifneB (tgt := 18) X dc_C_holder_13 (by decide) (fun c_2 => ?_) (fun c_2 => ?_)
    · refine lv_aload_n X.1 X.2.1 dc_C_holder_18 rfl (lv_at hl 0 rfl) ?_
      refine cx_get (v := .int (jI (S 1 0 0))) X B (wC_0 u ad S sc) rfl uw_C 4 (by decide) gf_C_55 rfl dc_C_holder_19 ?_
      refine lv_istore_n (lv' := [(2, .int (jI (S 1 0 0))), (0, .ref (ad 0 0)), (1, .int (jI (a)))]) X.1 X.2.1 dc_C_holder_22 rfl hl (by decide) rfl (fun ls hl => ?_)
      refine lv_aload_n X.1 X.2.1 dc_C_holder_23 rfl (lv_at hl 1 rfl) ?_
      refine cx_get (v := .ref (ad 2 0)) X B (wC_0 u ad S sc) rfl uw_C 2 (by decide) gf_C_15 rfl dc_C_holder_24 ?_
      refine lv_iload_n X.1 X.2.1 dc_C_holder_27 rfl (lv_at hl 0 rfl) ?_
      refine lv_iload_n X.1 X.2.1 dc_C_holder_28 rfl (lv_at hl 2 rfl) ?_
      refine cx_iast X B (wC_2 u ad S sc) (n) (by omega) (by omega) (by decide) dc_C_holder_29 (fun H locs B => ?_)
      have B : cx_B u (cx_A (wC u ad S sc) sz) (cx_up (wC u ad S sc) 2 0 (ad 2 0, .inl (u.2 0, 12, .inl (fun z_ => jI (va_up (fun z_ => S 5 z_ 0) n a z_))))) s H locs := B
      refine lv_aload_n X.1 X.2.1 dc_C_holder_30 rfl (lv_at hl 1 rfl) ?_
      refine cx_get (v := .ref (ad 3 0)) X B ((cx_up_n _ _ (fun q => absurd q.1 (by decide))).trans (wC_0 u ad S sc)) rfl uw_C 3 (by decide) gf_C_19 rfl dc_C_holder_31 ?_
      refine lv_iload_n X.1 X.2.1 dc_C_holder_34 rfl (lv_at hl 0 rfl) ?_
      refine cx_iconst X dc_C_holder_35 ?_
      refine cx_iast X B ((cx_up_n _ _ (fun q => absurd q.1 (by decide))).trans (wC_3 u ad S sc)) (n) (by omega) (by omega) (by decide) dc_C_holder_36 (fun H locs B => ?_)
      have B : cx_B u (cx_A (wC u ad S sc) sz) (cx_up (cx_up (wC u ad S sc) 2 0 (ad 2 0, .inl (u.2 0, 12, .inl (fun z_ => jI (va_up (fun z_ => S 5 z_ 0) n a z_))))) 3 0 (ad 3 0, .inl (u.2 0, 12, .inl (fun z_ => jI (va_up (fun z_ => S 6 z_ 0) n (-1) z_))))) s H locs := B
      refine lv_aload_n X.1 X.2.1 dc_C_holder_37 rfl (lv_at hl 1 rfl) ?_
      refine lv_dup X.1 X.2.1 dc_C_holder_38 rfl ?_
      refine cx_get (v := .int (jI (S 1 0 0))) X B ((cx_up_n _ _ (fun q => absurd q.1 (by decide))).trans ((cx_up_n _ _ (fun q => absurd q.1 (by decide))).trans (wC_0 u ad S sc))) rfl uw_C 4 (by decide) gf_C_55 rfl dc_C_holder_39 ?_
      refine cx_iconst X dc_C_holder_42 ?_
      refine cx_iadd X dc_C_holder_43 ?_
      refine cx_put (v := .int (jI ((S 1 0 0) + 1))) X B ((cx_up_n _ _ (fun q => absurd q.1 (by decide))).trans ((cx_up_n _ _ (fun q => absurd q.1 (by decide))).trans (wC_0 u ad S sc))) rfl uw_C ft_C fo_C fn_C 4 (by decide) gf_C_55 rfl (fo_C 4 (by decide)) rfl rfl (Nat.le_of_ble_eq_true rfl) dc_C_holder_44 (fun H locs B => ?_)
      have B : cx_B u (cx_A (wC u ad S sc) sz) (cx_up (cx_up (cx_up (wC u ad S sc) 2 0 (ad 2 0, .inl (u.2 0, 12, .inl (fun z_ => jI (va_up (fun z_ => S 5 z_ 0) n a z_))))) 3 0 (ad 3 0, .inl (u.2 0, 12, .inl (fun z_ => jI (va_up (fun z_ => S 6 z_ 0) n (-1) z_))))) 0 0 (ad 0 0, .inr (3, [.ref (ad 1 0), .int (jI (S 0 0 0)), .ref (ad 2 0), .ref (ad 3 0), .int (jI ((S 1 0 0) + 1)), .ref (ad 4 0), .ref (ad 9 0), .int (jI (S 3 0 0)), .int (jI (S 4 0 0))]))) s H locs := B
      refine lv_iload_n X.1 X.2.1 dc_C_holder_47 rfl (lv_at hl 0 rfl) ?_
      have hQ : S 1 0 0 < 12 ∧ 0 ≤ a ∧ a < 10 := by omega
      have hG : cx_up (cx_up (cx_up (wC u ad S sc) 2 0 (ad 2 0, .inl (u.2 0, 12, .inl (fun z_ => jI (va_up (fun z_ => S 5 z_ 0) n a z_))))) 3 0 (ad 3 0, .inl (u.2 0, 12, .inl (fun z_ => jI (va_up (fun z_ => S 6 z_ 0) n (-1) z_))))) 0 0 (ad 0 0, .inr (3, [.ref (ad 1 0), .int (jI (S 0 0 0)), .ref (ad 2 0), .ref (ad 3 0), .int (jI ((S 1 0 0) + 1)), .ref (ad 4 0), .ref (ad 9 0), .int (jI (S 3 0 0)), .int (jI (S 4 0 0))])) = wC u ad (op_holder S a) sc := by
        rw [op_holder, if_pos hQ]
        funext k j
        match k with
        | 0 => by_cases hz : j = 0 <;> simp [cx_up, wC, cs_u, hz, va_upE, Int.toNat_natCast, hnn]
        | 1 => by_cases hz : j = 0 <;> simp [cx_up, wC, cs_u, hz, va_upE, Int.toNat_natCast, hnn]
        | 2 => by_cases hz : j = 0 <;> simp [cx_up, wC, cs_u, hz, va_upE, Int.toNat_natCast, hnn]
        | 3 => by_cases hz : j = 0 <;> simp [cx_up, wC, cs_u, hz, va_upE, Int.toNat_natCast, hnn]
        | 4 => by_cases hz : j = 0 <;> simp [cx_up, wC, cs_u, hz, va_upE, Int.toNat_natCast, hnn]
        | 5 => by_cases hz : j = 0 <;> simp [cx_up, wC, cs_u, hz, va_upE, Int.toNat_natCast, hnn]
        | 6 => by_cases hz : j = 0 <;> simp [cx_up, wC, cs_u, hz, va_upE, Int.toNat_natCast, hnn]
        | 7 => by_cases hz : j = 0 <;> simp [cx_up, wC, cs_u, hz, va_upE, Int.toNat_natCast, hnn]
        | 8 => by_cases hz : j = 0 <;> simp [cx_up, wC, cs_u, hz, va_upE, Int.toNat_natCast, hnn]
        | 9 => by_cases hz : j = 0 <;> simp [cx_up, wC, cs_u, hz, va_upE, Int.toNat_natCast, hnn]
        | 10 => by_cases hz : j = 0 <;> simp [cx_up, wC, cs_u, hz, va_upE, Int.toNat_natCast, hnn]
        | 11 => by_cases hz : j = 0 <;> simp [cx_up, wC, cs_u, hz, va_upE, Int.toNat_natCast, hnn]
        | 12 => by_cases hz : j = 0 <;> simp [cx_up, wC, cs_u, hz, va_upE, Int.toNat_natCast, hnn]
        | 13 => by_cases hz : j = 0 <;> simp [cx_up, wC, cs_u, hz, va_upE, Int.toNat_natCast, hnn]
        | 14 => simp [cx_up, wC, cs_u, va_upE, Int.toNat_natCast, hnn]
        | 15 => simp [cx_up, wC, cs_u, va_upE, Int.toNat_natCast, hnn]
        | 16 => simp [cx_up, wC, cs_u, va_upE, Int.toNat_natCast, hnn]
        | k + 17 => simp [cx_up, wC]
      exact cx_iretM X B hsz hr hlk (Nat.le_of_ble_eq_true rfl) (Nat.le_of_ble_eq_true rfl) (by rw [cs_holderQ, if_pos hQ]) (hG) dc_C_holder_48
    · refine cx_iconst X dc_C_holder_16 ?_
      have hQ : ¬ (S 1 0 0 < 12 ∧ 0 ≤ a ∧ a < 10) := by omega
      exact cx_iretM X B hsz hr hlk (Nat.le_of_ble_eq_true rfl) (Nat.le_of_ble_eq_true rfl) (by rw [cs_holderQ, if_neg hQ]) (by rw [op_holder, if_neg hQ]) dc_C_holder_17
def op_add (S : cs_S) (st h g t : Int) : cs_S := if S 2 0 0 < 200 then cs_u (cs_u (cs_u (cs_u (cs_u S 7 (S 2 0 0).toNat 0 st) 8 (S 2 0 0).toNat 0 h) 9 (S 2 0 0).toNat 0 g) 10 (S 2 0 0).toNat 0 t) 2 0 0 (S 2 0 0 + 1) else S
def op_land (S : cs_S) (a b g d t : Int) : cs_S := if 0 ≤ a ∧ a < S 0 0 0 ∧ 0 ≤ b ∧ b < S 1 0 0 ∧ S 14 a.toNat 0 = 1 ∧ 1 ≤ g ∧ g ≤ 1000000000 ∧ 0 ≤ d ∧ d ≤ 99999 ∧ 0 ≤ t ∧ t ≤ 99999 ∧ d ≤ t then op_add S a b g t else S
def cs_landP (S : cs_S) (a b g d t : Int) : Prop := (0 ≤ a ∧ a < S 0 0 0 ∧ 0 ≤ b ∧ b < S 1 0 0 ∧ S 14 a.toNat 0 = 1 ∧ 1 ≤ g ∧ g ≤ 1000000000 ∧ 0 ≤ d ∧ d ≤ 99999 ∧ 0 ≤ t ∧ t ≤ 99999 ∧ d ≤ t) ∧ S 2 0 0 < 200
set_option maxHeartbeats 4000000 in
set_option maxRecDepth 100000 in
theorem c_L_add (l : Launch) (u : cx_U) (sz : Nat) (ad : Nat → Nat → Nat) (S : cs_S) (sc : Nat → Nat → Int) (hI : cs_I S) (st h g t : Int) (s1 : -2147483648 ≤ st) (s2 : st ≤ 2147483647) (h1 : -2147483648 ≤ h) (h2 : h ≤ 2147483647) (g1 : -9223372036854775808 ≤ g) (g2 : g ≤ 9223372036854775807) (t1 : -2147483648 ≤ t) (t2 : t ≤ 2147483647) : cx_M l u mn_L_add bc_L_add 6 (some .boolean) 0 0 [.ref (ad 4 0), .int (jI (st)), .int (jI (h)), .long (jL (g)), .int (jI (t))] (wC u ad S sc) sz (some (.int (jI (jB (S 2 0 0 < 200))))) (fun w' => w' = wC u ad (op_add S st h g t) sc) 0 0 := by
  refine cx_M.of (by decide +kernel) (Nat.le_of_ble_eq_true rfl) ?_
  intro p e s m args below meth c ls hsz X hr hlk hin B hl
  have X : CallFix p m c bc_L_add 6 s args GW "CatchShares$Landings" := X
  have hl : lv_has ls 6 [(0, .ref (ad 4 0)), (1, .int (jI (st))), (2, .int (jI (h))), (3, .long (jL (g))), (5, .int (jI (t)))] := hl
  have hI1 := hI.1
  obtain ⟨n, hn⟩ : ∃ n : Nat, S 2 0 0 = (n : Int) := ⟨(S 2 0 0).toNat, by omega⟩
  have hnn : (S 2 0 0).toNat = n := by omega
  refine lv_aload_n X.1 X.2.1 dc_L_add_0 rfl (lv_at hl 0 rfl) ?_
  refine cx_get (v := .int (jI (S 2 0 0))) X B (wC_4 u ad S sc) rfl uw_L 4 (by decide) gf_L_25 rfl dc_L_add_1 ?_
  refine cx_sipush X dc_L_add_4 (by decide +kernel) ?_
  refine cx_icmp_lt (tgt := 12) X (by omega) (by omega) (by omega) (by omega) dc_L_add_7 (by decide) (fun c_1 => ?_) (fun c_1 => ?_)
  · refine lv_aload_n X.1 X.2.1 dc_L_add_12 rfl (lv_at hl 0 rfl) ?_
    refine cx_get (v := .ref (ad 5 0)) X B (wC_4 u ad S sc) rfl uw_L 0 (by decide) gf_L_9 rfl dc_L_add_13 ?_
    refine lv_aload_n X.1 X.2.1 dc_L_add_16 rfl (lv_at hl 0 rfl) ?_
    refine cx_get (v := .int (jI (S 2 0 0))) X B (wC_4 u ad S sc) rfl uw_L 4 (by decide) gf_L_25 rfl dc_L_add_17 ?_
    refine lv_iload_n X.1 X.2.1 dc_L_add_20 rfl (lv_at hl 1 rfl) ?_
    refine cx_iast X B (wC_5 u ad S sc) (n) (by omega) (by omega) (by decide) dc_L_add_21 (fun H locs B => ?_)
    have B : cx_B u (cx_A (wC u ad S sc) sz) (cx_up (wC u ad S sc) 5 0 (ad 5 0, .inl (u.2 0, 200, .inl (fun z_ => jI (va_up (fun z_ => S 7 z_ 0) n st z_))))) s H locs := B
    refine lv_aload_n X.1 X.2.1 dc_L_add_22 rfl (lv_at hl 0 rfl) ?_
    refine cx_get (v := .ref (ad 6 0)) X B ((cx_up_n _ _ (fun q => absurd q.1 (by decide))).trans (wC_4 u ad S sc)) rfl uw_L 1 (by decide) gf_L_15 rfl dc_L_add_23 ?_
    refine lv_aload_n X.1 X.2.1 dc_L_add_26 rfl (lv_at hl 0 rfl) ?_
    refine cx_get (v := .int (jI (S 2 0 0))) X B ((cx_up_n _ _ (fun q => absurd q.1 (by decide))).trans (wC_4 u ad S sc)) rfl uw_L 4 (by decide) gf_L_25 rfl dc_L_add_27 ?_
    refine lv_iload_n X.1 X.2.1 dc_L_add_30 rfl (lv_at hl 2 rfl) ?_
    refine cx_iast X B ((cx_up_n _ _ (fun q => absurd q.1 (by decide))).trans (wC_6 u ad S sc)) (n) (by omega) (by omega) (by decide) dc_L_add_31 (fun H locs B => ?_)
    have B : cx_B u (cx_A (wC u ad S sc) sz) (cx_up (cx_up (wC u ad S sc) 5 0 (ad 5 0, .inl (u.2 0, 200, .inl (fun z_ => jI (va_up (fun z_ => S 7 z_ 0) n st z_))))) 6 0 (ad 6 0, .inl (u.2 0, 200, .inl (fun z_ => jI (va_up (fun z_ => S 8 z_ 0) n h z_))))) s H locs := B
    refine lv_aload_n X.1 X.2.1 dc_L_add_32 rfl (lv_at hl 0 rfl) ?_
    refine cx_get (v := .ref (ad 7 0)) X B ((cx_up_n _ _ (fun q => absurd q.1 (by decide))).trans ((cx_up_n _ _ (fun q => absurd q.1 (by decide))).trans (wC_4 u ad S sc))) rfl uw_L 2 (by decide) gf_L_18 rfl dc_L_add_33 ?_
    refine lv_aload_n X.1 X.2.1 dc_L_add_36 rfl (lv_at hl 0 rfl) ?_
    refine cx_get (v := .int (jI (S 2 0 0))) X B ((cx_up_n _ _ (fun q => absurd q.1 (by decide))).trans ((cx_up_n _ _ (fun q => absurd q.1 (by decide))).trans (wC_4 u ad S sc))) rfl uw_L 4 (by decide) gf_L_25 rfl dc_L_add_37 ?_
    refine lv_lload_n X.1 X.2.1 dc_L_add_40 rfl (lv_at hl 3 rfl) ?_
    refine cx_last X B ((cx_up_n _ _ (fun q => absurd q.1 (by decide))).trans ((cx_up_n _ _ (fun q => absurd q.1 (by decide))).trans (wC_7 u ad S sc))) (n) (by omega) (by omega) (by decide) dc_L_add_41 (fun H locs B => ?_)
    have B : cx_B u (cx_A (wC u ad S sc) sz) (cx_up (cx_up (cx_up (wC u ad S sc) 5 0 (ad 5 0, .inl (u.2 0, 200, .inl (fun z_ => jI (va_up (fun z_ => S 7 z_ 0) n st z_))))) 6 0 (ad 6 0, .inl (u.2 0, 200, .inl (fun z_ => jI (va_up (fun z_ => S 8 z_ 0) n h z_))))) 7 0 (ad 7 0, .inl (u.2 1, 200, .inr (.inl (fun z_ => jL (va_up (fun z_ => S 9 z_ 0) n g z_)))))) s H locs := B
    refine lv_aload_n X.1 X.2.1 dc_L_add_42 rfl (lv_at hl 0 rfl) ?_
    refine cx_get (v := .ref (ad 8 0)) X B ((cx_up_n _ _ (fun q => absurd q.1 (by decide))).trans ((cx_up_n _ _ (fun q => absurd q.1 (by decide))).trans ((cx_up_n _ _ (fun q => absurd q.1 (by decide))).trans (wC_4 u ad S sc)))) rfl uw_L 3 (by decide) gf_L_22 rfl dc_L_add_43 ?_
    refine lv_aload_n X.1 X.2.1 dc_L_add_46 rfl (lv_at hl 0 rfl) ?_
    refine cx_get (v := .int (jI (S 2 0 0))) X B ((cx_up_n _ _ (fun q => absurd q.1 (by decide))).trans ((cx_up_n _ _ (fun q => absurd q.1 (by decide))).trans ((cx_up_n _ _ (fun q => absurd q.1 (by decide))).trans (wC_4 u ad S sc)))) rfl uw_L 4 (by decide) gf_L_25 rfl dc_L_add_47 ?_
    refine lv_iload X.1 X.2.1 dc_L_add_50 (lv_at hl 4 rfl) ?_
    refine cx_iast X B ((cx_up_n _ _ (fun q => absurd q.1 (by decide))).trans ((cx_up_n _ _ (fun q => absurd q.1 (by decide))).trans ((cx_up_n _ _ (fun q => absurd q.1 (by decide))).trans (wC_8 u ad S sc)))) (n) (by omega) (by omega) (by decide) dc_L_add_52 (fun H locs B => ?_)
    have B : cx_B u (cx_A (wC u ad S sc) sz) (cx_up (cx_up (cx_up (cx_up (wC u ad S sc) 5 0 (ad 5 0, .inl (u.2 0, 200, .inl (fun z_ => jI (va_up (fun z_ => S 7 z_ 0) n st z_))))) 6 0 (ad 6 0, .inl (u.2 0, 200, .inl (fun z_ => jI (va_up (fun z_ => S 8 z_ 0) n h z_))))) 7 0 (ad 7 0, .inl (u.2 1, 200, .inr (.inl (fun z_ => jL (va_up (fun z_ => S 9 z_ 0) n g z_)))))) 8 0 (ad 8 0, .inl (u.2 0, 200, .inl (fun z_ => jI (va_up (fun z_ => S 10 z_ 0) n t z_))))) s H locs := B
    refine lv_aload_n X.1 X.2.1 dc_L_add_53 rfl (lv_at hl 0 rfl) ?_
    refine lv_dup X.1 X.2.1 dc_L_add_54 rfl ?_
    refine cx_get (v := .int (jI (S 2 0 0))) X B ((cx_up_n _ _ (fun q => absurd q.1 (by decide))).trans ((cx_up_n _ _ (fun q => absurd q.1 (by decide))).trans ((cx_up_n _ _ (fun q => absurd q.1 (by decide))).trans ((cx_up_n _ _ (fun q => absurd q.1 (by decide))).trans (wC_4 u ad S sc))))) rfl uw_L 4 (by decide) gf_L_25 rfl dc_L_add_55 ?_
    refine cx_iconst X dc_L_add_58 ?_
    refine cx_iadd X dc_L_add_59 ?_
    refine cx_put (v := .int (jI ((S 2 0 0) + 1))) X B ((cx_up_n _ _ (fun q => absurd q.1 (by decide))).trans ((cx_up_n _ _ (fun q => absurd q.1 (by decide))).trans ((cx_up_n _ _ (fun q => absurd q.1 (by decide))).trans ((cx_up_n _ _ (fun q => absurd q.1 (by decide))).trans (wC_4 u ad S sc))))) rfl uw_L ft_L fo_L fn_L 4 (by decide) gf_L_25 rfl (fo_L 4 (by decide)) rfl rfl (Nat.le_of_ble_eq_true rfl) dc_L_add_60 (fun H locs B => ?_)
    have B : cx_B u (cx_A (wC u ad S sc) sz) (cx_up (cx_up (cx_up (cx_up (cx_up (wC u ad S sc) 5 0 (ad 5 0, .inl (u.2 0, 200, .inl (fun z_ => jI (va_up (fun z_ => S 7 z_ 0) n st z_))))) 6 0 (ad 6 0, .inl (u.2 0, 200, .inl (fun z_ => jI (va_up (fun z_ => S 8 z_ 0) n h z_))))) 7 0 (ad 7 0, .inl (u.2 1, 200, .inr (.inl (fun z_ => jL (va_up (fun z_ => S 9 z_ 0) n g z_)))))) 8 0 (ad 8 0, .inl (u.2 0, 200, .inl (fun z_ => jI (va_up (fun z_ => S 10 z_ 0) n t z_))))) 4 0 (ad 4 0, .inr (0, [.ref (ad 5 0), .ref (ad 6 0), .ref (ad 7 0), .ref (ad 8 0), .int (jI ((S 2 0 0) + 1))]))) s H locs := B
    refine cx_iconst X dc_L_add_63 ?_
    have hQ : S 2 0 0 < 200 := by (try simp only [cs_nn]); omega
    have hG : cx_up (cx_up (cx_up (cx_up (cx_up (wC u ad S sc) 5 0 (ad 5 0, .inl (u.2 0, 200, .inl (fun z_ => jI (va_up (fun z_ => S 7 z_ 0) n st z_))))) 6 0 (ad 6 0, .inl (u.2 0, 200, .inl (fun z_ => jI (va_up (fun z_ => S 8 z_ 0) n h z_))))) 7 0 (ad 7 0, .inl (u.2 1, 200, .inr (.inl (fun z_ => jL (va_up (fun z_ => S 9 z_ 0) n g z_)))))) 8 0 (ad 8 0, .inl (u.2 0, 200, .inl (fun z_ => jI (va_up (fun z_ => S 10 z_ 0) n t z_))))) 4 0 (ad 4 0, .inr (0, [.ref (ad 5 0), .ref (ad 6 0), .ref (ad 7 0), .ref (ad 8 0), .int (jI ((S 2 0 0) + 1))])) = wC u ad (op_add S st h g t) sc := by
      rw [op_add, if_pos hQ]
      funext k j
      match k with
      | 0 => by_cases hz : j = 0 <;> simp [cx_up, wC, cs_u, hz, va_upE, Int.toNat_natCast, hnn]
      | 1 => by_cases hz : j = 0 <;> simp [cx_up, wC, cs_u, hz, va_upE, Int.toNat_natCast, hnn]
      | 2 => by_cases hz : j = 0 <;> simp [cx_up, wC, cs_u, hz, va_upE, Int.toNat_natCast, hnn]
      | 3 => by_cases hz : j = 0 <;> simp [cx_up, wC, cs_u, hz, va_upE, Int.toNat_natCast, hnn]
      | 4 => by_cases hz : j = 0 <;> simp [cx_up, wC, cs_u, hz, va_upE, Int.toNat_natCast, hnn]
      | 5 => by_cases hz : j = 0 <;> simp [cx_up, wC, cs_u, hz, va_upE, Int.toNat_natCast, hnn]
      | 6 => by_cases hz : j = 0 <;> simp [cx_up, wC, cs_u, hz, va_upE, Int.toNat_natCast, hnn]
      | 7 => by_cases hz : j = 0 <;> simp [cx_up, wC, cs_u, hz, va_upE, Int.toNat_natCast, hnn]
      | 8 => by_cases hz : j = 0 <;> simp [cx_up, wC, cs_u, hz, va_upE, Int.toNat_natCast, hnn]
      | 9 => by_cases hz : j = 0 <;> simp [cx_up, wC, cs_u, hz, va_upE, Int.toNat_natCast, hnn]
      | 10 => by_cases hz : j = 0 <;> simp [cx_up, wC, cs_u, hz, va_upE, Int.toNat_natCast, hnn]
      | 11 => by_cases hz : j = 0 <;> simp [cx_up, wC, cs_u, hz, va_upE, Int.toNat_natCast, hnn]
      | 12 => by_cases hz : j = 0 <;> simp [cx_up, wC, cs_u, hz, va_upE, Int.toNat_natCast, hnn]
      | 13 => by_cases hz : j = 0 <;> simp [cx_up, wC, cs_u, hz, va_upE, Int.toNat_natCast, hnn]
      | 14 => simp [cx_up, wC, cs_u, va_upE, Int.toNat_natCast, hnn]
      | 15 => simp [cx_up, wC, cs_u, va_upE, Int.toNat_natCast, hnn]
      | 16 => simp [cx_up, wC, cs_u, va_upE, Int.toNat_natCast, hnn]
      | k + 17 => simp [cx_up, wC]
    exact cx_zretM X B hsz hr hlk (Nat.le_of_ble_eq_true rfl) (Nat.le_of_ble_eq_true rfl) (by omega) (by omega) (by rw [jB_t hQ]) (hG) dc_L_add_64
  · refine cx_iconst X dc_L_add_10 ?_
    have hQ : ¬ (S 2 0 0 < 200) := by (try simp only [cs_nn]); omega
    exact cx_zretM X B hsz hr hlk (Nat.le_of_ble_eq_true rfl) (Nat.le_of_ble_eq_true rfl) (by omega) (by omega) (by rw [jB_f hQ]) (by rw [op_add, if_neg hQ]) dc_L_add_11
set_option maxHeartbeats 4000000 in
set_option maxRecDepth 100000 in
theorem c_C_land (l : Launch) (u : cx_U) (sz : Nat) (ad : Nat → Nat → Nat) (S : cs_S) (sc : Nat → Nat → Int) (hI : cs_I S) (a b : Int) (a1 : -2147483648 ≤ a) (a2 : a ≤ 2147483647) (b1 : -2147483648 ≤ b) (b2 : b ≤ 2147483647) (g d t : Int) (g1 : -9223372036854775808 ≤ g) (g2 : g ≤ 9223372036854775807) (d1 : -2147483648 ≤ d) (d2 : d ≤ 2147483647) (t1 : -2147483648 ≤ t) (t2 : t ≤ 2147483647) : cx_M l u mn_C_land bc_C_land 8 (some .boolean) 1 25 [.ref (ad 0 0), .int (jI (a)), .int (jI (b)), .long (jL (g)), .int (jI (d)), .int (jI (t))] (wC u ad S sc) sz (some (.int (jI (jB (cs_landP S a b g d t))))) (fun w' => w' = wC u ad (op_land S a b g d t) sc) 0 0 := by
  refine cx_M.of (by decide +kernel) (Nat.le_of_ble_eq_true rfl) ?_
  intro p e s m args below meth c ls hsz X hr hlk hin B hl
  have X : CallFix p m c bc_C_land 8 s args GW "CatchShares" := X
  have hl : lv_has ls 8 [(0, .ref (ad 0 0)), (1, .int (jI (a))), (2, .int (jI (b))), (3, .long (jL (g))), (5, .int (jI (d))), (6, .int (jI (t)))] := hl
  have hI1 := hI.1
  have hI5 := hI.2.2.2.2.1
  refine lv_aload_n X.1 X.2.1 dc_C_land_0 rfl (lv_at hl 0 rfl) ?_
  refine lv_iload_n X.1 X.2.1 dc_C_land_1 rfl (lv_at hl 1 rfl) ?_
  by_cases hs_1 : 0 ≤ a ∧ a < S 0 0 0
  · obtain ⟨i, rfl⟩ : ∃ i : Nat, a = (i : Int) := ⟨a.toNat, by omega⟩
    have hi : (i : Int) < S 0 0 0 := hs_1.2
    refine cx_cVN (As := [.int (jI (i : Int))]) (rest := []) X B kc_C_findStock gm_C_62 (c_C_findStock l u ad S sc hI i hi) (fun _ _ _ h => h) (wC_0 u ad S sc) rfl rfl ⟨(Nat.le_of_ble_eq_true rfl), (Nat.le_of_ble_eq_true rfl)⟩ ⟨(Nat.le_of_ble_eq_true rfl), (Nat.le_of_ble_eq_true rfl)⟩ rfl hl.1 (Nat.le_of_ble_eq_true rfl) dc_C_land_2 rfl ?_
    refine lv_astore (lv' := [(7, .ref (ad 14 i)), (0, .ref (ad 0 0)), (1, .int (jI ((i : Int)))), (2, .int (jI (b))), (3, .long (jL (g))), (5, .int (jI (d))), (6, .int (jI (t)))]) X.1 X.2.1 dc_C_land_5 hl (by decide) rfl (fun ls hl => ?_)
    refine lv_aload X.1 X.2.1 dc_C_land_7 (lv_at hl 0 rfl) ?_
    refine lv_ifnull X.1 X.2.1 dc_C_land_9 ?_
    refine lv_aload_n X.1 X.2.1 dc_C_land_12 rfl (lv_at hl 1 rfl) ?_
    refine lv_iload_n X.1 X.2.1 dc_C_land_13 rfl (lv_at hl 3 rfl) ?_
    refine cx_cVN (r := .int (jI (jB (0 ≤ b ∧ b < S 1 0 0)))) (As := [.int (jI (b))]) (rest := []) X B kc_C_isHolder gm_C_66 (c_C_isHolder l u ad S sc hI b (by omega) (by omega)) (fun _ _ _ h => h) (wC_0 u ad S sc) rfl rfl ⟨(Nat.le_of_ble_eq_true rfl), (Nat.le_of_ble_eq_true rfl)⟩ ⟨(Nat.le_of_ble_eq_true rfl), (Nat.le_of_ble_eq_true rfl)⟩ rfl hl.1 (Nat.le_of_ble_eq_true rfl) dc_C_land_14 rfl ?_
    refine cx_ifeqB (tgt := 28) X dc_C_land_17 (by decide) (fun c_2 => ?_) (fun c_2 => ?_)
    · refine cx_iconst X dc_C_land_28 ?_
      have hQ : ¬ (0 ≤ (i : Int) ∧ (i : Int) < S 0 0 0 ∧ 0 ≤ b ∧ b < S 1 0 0 ∧ S 14 (i : Int).toNat 0 = 1 ∧ 1 ≤ g ∧ g ≤ 1000000000 ∧ 0 ≤ d ∧ d ≤ 99999 ∧ 0 ≤ t ∧ t ≤ 99999 ∧ d ≤ t) := by (try simp only [cs_nn]); omega
      exact cx_zretM X B hsz hr hlk (Nat.le_of_ble_eq_true rfl) (Nat.le_of_ble_eq_true rfl) (by omega) (by omega) (by rw [jB_f (fun q => hQ q.1)]) (by rw [op_land, if_neg hQ]) dc_C_land_29
    · obtain ⟨h, rfl⟩ : ∃ h : Nat, b = (h : Int) := ⟨b.toNat, by omega⟩
      refine lv_aload X.1 X.2.1 dc_C_land_20 (lv_at hl 0 rfl) ?_
      refine cx_get (v := .int (jI (S 14 i 0))) X B (wC_14 u ad S sc hi) rfl uw_S 5 (by decide) gf_C_69 rfl dc_C_land_22 ?_
      have r_3 := hI5 i
      refine cx_if_ne (tgt := 30) X (by omega) (by omega) dc_C_land_25 (by decide) (fun c_4 => ?_) (fun c_4 => ?_)
      · refine lv_lload_n X.1 X.2.1 dc_C_land_30 rfl (lv_at hl 4 rfl) ?_
        refine cx_lconst (a := 1) X dc_C_land_31 (by decide +kernel) ?_
        refine cx_ldc2 (a := 1000000000) X gk_C_46 (by decide +kernel) dc_C_land_32 ?_
        refine cx_cSN (r := .int (jI (jB (1 ≤ g ∧ g ≤ 1000000000)))) (As := [.long (jL (g)), .long (jL (1)), .long (jL (1000000000))]) (rest := []) X B kc_C_isWithin gm_C_48 (c_C_isWithin l u _ g 1 1000000000 (by omega) (by omega) (by omega) (by omega) (by omega) (by omega)) (fun _ _ _ h => h) ⟨(Nat.le_of_ble_eq_true rfl), (Nat.le_of_ble_eq_true rfl)⟩ ⟨(Nat.le_of_ble_eq_true rfl), (Nat.le_of_ble_eq_true rfl)⟩ rfl hl.1 (Nat.le_of_ble_eq_true rfl) dc_C_land_35 rfl ?_
        refine cx_ifeqB (tgt := 67) X dc_C_land_38 (by decide) (fun c_5 => ?_) (fun c_5 => ?_)
        · refine cx_iconst X dc_C_land_67 ?_
          have hQ : ¬ (0 ≤ (i : Int) ∧ (i : Int) < S 0 0 0 ∧ 0 ≤ (h : Int) ∧ (h : Int) < S 1 0 0 ∧ S 14 (i : Int).toNat 0 = 1 ∧ 1 ≤ g ∧ g ≤ 1000000000 ∧ 0 ≤ d ∧ d ≤ 99999 ∧ 0 ≤ t ∧ t ≤ 99999 ∧ d ≤ t) := by (try simp only [cs_nn]); omega
          exact cx_zretM X B hsz hr hlk (Nat.le_of_ble_eq_true rfl) (Nat.le_of_ble_eq_true rfl) (by omega) (by omega) (by rw [jB_f (fun q => hQ q.1)]) (by rw [op_land, if_neg hQ]) dc_C_land_68
        · refine lv_iload X.1 X.2.1 dc_C_land_41 (lv_at hl 5 rfl) ?_
          refine cx_i2l X (by omega) (by omega) dc_C_land_43 ?_
          refine cx_lconst (a := 0) X dc_C_land_44 (by decide +kernel) ?_
          refine cx_ldc2 (a := 99999) X gk_C_106 (by decide +kernel) dc_C_land_45 ?_
          refine cx_cSN (r := .int (jI (jB (0 ≤ d ∧ d ≤ 99999)))) (As := [.long (jL (d)), .long (jL (0)), .long (jL (99999))]) (rest := []) X B kc_C_isWithin gm_C_48 (c_C_isWithin l u _ d 0 99999 (by omega) (by omega) (by omega) (by omega) (by omega) (by omega)) (fun _ _ _ h => h) ⟨(Nat.le_of_ble_eq_true rfl), (Nat.le_of_ble_eq_true rfl)⟩ ⟨(Nat.le_of_ble_eq_true rfl), (Nat.le_of_ble_eq_true rfl)⟩ rfl hl.1 (Nat.le_of_ble_eq_true rfl) dc_C_land_48 rfl ?_
          refine cx_ifeqB (tgt := 67) X dc_C_land_51 (by decide) (fun c_6 => ?_) (fun c_6 => ?_)
          · refine cx_iconst X dc_C_land_67 ?_
            have hQ : ¬ (0 ≤ (i : Int) ∧ (i : Int) < S 0 0 0 ∧ 0 ≤ (h : Int) ∧ (h : Int) < S 1 0 0 ∧ S 14 (i : Int).toNat 0 = 1 ∧ 1 ≤ g ∧ g ≤ 1000000000 ∧ 0 ≤ d ∧ d ≤ 99999 ∧ 0 ≤ t ∧ t ≤ 99999 ∧ d ≤ t) := by (try simp only [cs_nn]); omega
            exact cx_zretM X B hsz hr hlk (Nat.le_of_ble_eq_true rfl) (Nat.le_of_ble_eq_true rfl) (by omega) (by omega) (by rw [jB_f (fun q => hQ q.1)]) (by rw [op_land, if_neg hQ]) dc_C_land_68
          · refine lv_iload X.1 X.2.1 dc_C_land_54 (lv_at hl 6 rfl) ?_
            refine cx_i2l X (by omega) (by omega) dc_C_land_56 ?_
            refine cx_lconst (a := 0) X dc_C_land_57 (by decide +kernel) ?_
            refine cx_ldc2 (a := 99999) X gk_C_106 (by decide +kernel) dc_C_land_58 ?_
            refine cx_cSN (r := .int (jI (jB (0 ≤ t ∧ t ≤ 99999)))) (As := [.long (jL (t)), .long (jL (0)), .long (jL (99999))]) (rest := []) X B kc_C_isWithin gm_C_48 (c_C_isWithin l u _ t 0 99999 (by omega) (by omega) (by omega) (by omega) (by omega) (by omega)) (fun _ _ _ h => h) ⟨(Nat.le_of_ble_eq_true rfl), (Nat.le_of_ble_eq_true rfl)⟩ ⟨(Nat.le_of_ble_eq_true rfl), (Nat.le_of_ble_eq_true rfl)⟩ rfl hl.1 (Nat.le_of_ble_eq_true rfl) dc_C_land_61 rfl ?_
            refine cx_ifneB (tgt := 69) X dc_C_land_64 (by decide) (fun c_7 => ?_) (fun c_7 => ?_)
            · refine lv_iload X.1 X.2.1 dc_C_land_69 (lv_at hl 6 rfl) ?_
              refine lv_iload X.1 X.2.1 dc_C_land_71 (lv_at hl 5 rfl) ?_
              refine cx_icmp_ge (tgt := 78) X (by omega) (by omega) (by omega) (by omega) dc_C_land_73 (by decide) (fun c_8 => ?_) (fun c_8 => ?_)
              · refine lv_aload_n X.1 X.2.1 dc_C_land_78 rfl (lv_at hl 1 rfl) ?_
                refine cx_get (v := .ref (ad 4 0)) X B (wC_0 u ad S sc) rfl uw_C 5 (by decide) gf_C_25 rfl dc_C_land_79 ?_
                refine lv_iload_n X.1 X.2.1 dc_C_land_82 rfl (lv_at hl 2 rfl) ?_
                refine lv_iload_n X.1 X.2.1 dc_C_land_83 rfl (lv_at hl 3 rfl) ?_
                refine lv_lload_n X.1 X.2.1 dc_C_land_84 rfl (lv_at hl 4 rfl) ?_
                refine lv_iload X.1 X.2.1 dc_C_land_85 (lv_at hl 6 rfl) ?_
                refine cx_cVM (As := [.int (jI ((i : Int))), .int (jI ((h : Int))), .long (jL (g)), .int (jI (t))]) (rest := []) X B kc_L_add gm_C_108 (c_L_add l u _ ad S sc hI (i : Int) (h : Int) g t (by omega) (by omega) (by omega) (by omega) (by omega) (by omega) (by omega) (by omega)) (wC_4 u ad S sc) rfl rfl ⟨(Nat.le_of_ble_eq_true rfl), (Nat.le_of_ble_eq_true rfl)⟩ ⟨(Nat.le_of_ble_eq_true rfl), (Nat.le_of_ble_eq_true rfl)⟩ rfl hl.1 (Nat.le_of_ble_eq_true rfl) dc_C_land_87 rfl (fun H locs w' hw B => ?_)
                subst hw
                have hQ : 0 ≤ (i : Int) ∧ (i : Int) < S 0 0 0 ∧ 0 ≤ (h : Int) ∧ (h : Int) < S 1 0 0 ∧ S 14 (i : Int).toNat 0 = 1 ∧ 1 ≤ g ∧ g ≤ 1000000000 ∧ 0 ≤ d ∧ d ≤ 99999 ∧ 0 ≤ t ∧ t ≤ 99999 ∧ d ≤ t := by (try simp only [cs_nn]); omega
                exact cx_zretM X B hsz hr hlk (Nat.le_of_ble_eq_true rfl) (Nat.le_of_ble_eq_true rfl) (jB_r _).1 (jB_r _).2 (congrArg (fun q => some (Value.int (jI q))) (jB_c ⟨fun q => ⟨hQ, q⟩, fun q => q.2⟩)) (by rw [op_land, if_pos hQ]) dc_C_land_90
              · refine cx_iconst X dc_C_land_76 ?_
                have hQ : ¬ (0 ≤ (i : Int) ∧ (i : Int) < S 0 0 0 ∧ 0 ≤ (h : Int) ∧ (h : Int) < S 1 0 0 ∧ S 14 (i : Int).toNat 0 = 1 ∧ 1 ≤ g ∧ g ≤ 1000000000 ∧ 0 ≤ d ∧ d ≤ 99999 ∧ 0 ≤ t ∧ t ≤ 99999 ∧ d ≤ t) := by (try simp only [cs_nn]); omega
                exact cx_zretM X B hsz hr hlk (Nat.le_of_ble_eq_true rfl) (Nat.le_of_ble_eq_true rfl) (by omega) (by omega) (by rw [jB_f (fun q => hQ q.1)]) (by rw [op_land, if_neg hQ]) dc_C_land_77
            · refine cx_iconst X dc_C_land_67 ?_
              have hQ : ¬ (0 ≤ (i : Int) ∧ (i : Int) < S 0 0 0 ∧ 0 ≤ (h : Int) ∧ (h : Int) < S 1 0 0 ∧ S 14 (i : Int).toNat 0 = 1 ∧ 1 ≤ g ∧ g ≤ 1000000000 ∧ 0 ≤ d ∧ d ≤ 99999 ∧ 0 ≤ t ∧ t ≤ 99999 ∧ d ≤ t) := by (try simp only [cs_nn]); omega
              exact cx_zretM X B hsz hr hlk (Nat.le_of_ble_eq_true rfl) (Nat.le_of_ble_eq_true rfl) (by omega) (by omega) (by rw [jB_f (fun q => hQ q.1)]) (by rw [op_land, if_neg hQ]) dc_C_land_68
      · refine cx_iconst X dc_C_land_28 ?_
        have hQ : ¬ (0 ≤ (i : Int) ∧ (i : Int) < S 0 0 0 ∧ 0 ≤ (h : Int) ∧ (h : Int) < S 1 0 0 ∧ S 14 (i : Int).toNat 0 = 1 ∧ 1 ≤ g ∧ g ≤ 1000000000 ∧ 0 ≤ d ∧ d ≤ 99999 ∧ 0 ≤ t ∧ t ≤ 99999 ∧ d ≤ t) := by (try simp only [cs_nn]); omega
        exact cx_zretM X B hsz hr hlk (Nat.le_of_ble_eq_true rfl) (Nat.le_of_ble_eq_true rfl) (by omega) (by omega) (by rw [jB_f (fun q => hQ q.1)]) (by rw [op_land, if_neg hQ]) dc_C_land_29
  · refine cx_cVN (As := [.int (jI (a))]) (rest := []) X B kc_C_findStock gm_C_62 (c_C_findStock_0 l u ad S sc hI a (by omega) (by omega) hs_1) (fun _ _ _ h => h) (wC_0 u ad S sc) rfl rfl ⟨(Nat.le_of_ble_eq_true rfl), (Nat.le_of_ble_eq_true rfl)⟩ ⟨(Nat.le_of_ble_eq_true rfl), (Nat.le_of_ble_eq_true rfl)⟩ rfl hl.1 (Nat.le_of_ble_eq_true rfl) dc_C_land_2 rfl ?_
    refine lv_astoreN (lv' := [(7, .null), (0, .ref (ad 0 0)), (1, .int (jI (a))), (2, .int (jI (b))), (3, .long (jL (g))), (5, .int (jI (d))), (6, .int (jI (t)))]) X.1 X.2.1 dc_C_land_5 hl (by decide) rfl (fun ls hl => ?_)
    refine lv_aloadN X.1 X.2.1 dc_C_land_7 (lv_at hl 0 rfl) ?_
    refine lv_ifnullN (tgt := 28) X.1 X.2.1 dc_C_land_9 (by decide) ?_
    refine cx_iconst X dc_C_land_28 ?_
    have hQ : ¬ (0 ≤ a ∧ a < S 0 0 0 ∧ 0 ≤ b ∧ b < S 1 0 0 ∧ S 14 a.toNat 0 = 1 ∧ 1 ≤ g ∧ g ≤ 1000000000 ∧ 0 ≤ d ∧ d ≤ 99999 ∧ 0 ≤ t ∧ t ≤ 99999 ∧ d ≤ t) := by (try simp only [cs_nn]); omega
    exact cx_zretM X B hsz hr hlk (Nat.le_of_ble_eq_true rfl) (Nat.le_of_ble_eq_true rfl) (by omega) (by omega) (by rw [jB_f (fun q => hQ q.1)]) (by rw [op_land, if_neg hQ]) dc_C_land_29
def cs_trQ (S : cs_S) (a b d g : Int) : Int := if 0 ≤ a ∧ a < S 0 0 0 ∧ 0 ≤ b ∧ b < S 1 0 0 ∧ 0 ≤ d ∧ d < S 1 0 0 ∧ b ≠ d ∧ S 14 a.toNat 0 = 1 ∧ 1 ≤ g ∧ g ≤ 1000000000 then (if cs_lf S a.toNat b.toNat < g then 1 else 0) else -1
def op_tr (S : cs_S) (a b d g : Int) : cs_S := if (0 ≤ a ∧ a < S 0 0 0 ∧ 0 ≤ b ∧ b < S 1 0 0 ∧ 0 ≤ d ∧ d < S 1 0 0 ∧ b ≠ d ∧ S 14 a.toNat 0 = 1 ∧ 1 ≤ g ∧ g ≤ 1000000000) ∧ g ≤ cs_lf S a.toNat b.toNat then cs_u (cs_u S 21 a.toNat b.toNat (S 21 a.toNat b.toNat - g)) 21 a.toNat d.toNat (S 21 a.toNat d.toNat + g) else S
set_option maxHeartbeats 4000000 in
set_option maxRecDepth 100000 in
theorem c_C_transfer (l : Launch) (u : cx_U) (sz : Nat) (ad : Nat → Nat → Nat) (S : cs_S) (sc : Nat → Nat → Int) (hI : cs_I S) (a b d g : Int) (a1 : -2147483648 ≤ a) (a2 : a ≤ 2147483647) (b1 : -2147483648 ≤ b) (b2 : b ≤ 2147483647) (d1 : -2147483648 ≤ d) (d2 : d ≤ 2147483647) (g1 : -9223372036854775808 ≤ g) (g2 : g ≤ 9223372036854775807) : cx_M l u mn_C_transfer bc_C_transfer 7 (some .int) 3 71 [.ref (ad 0 0), .int (jI (a)), .int (jI (b)), .int (jI (d)), .long (jL (g))] (wC u ad S sc) sz (some (.int (jI (cs_trQ S a b d g)))) (fun w' => w' = wC u ad (op_tr S a b d g) sc) 0 0 := by
  refine cx_M.of (by decide +kernel) (Nat.le_of_ble_eq_true rfl) ?_
  intro p e s m args below meth c ls hsz X hr hlk hin B hl
  have X : CallFix p m c bc_C_transfer 7 s args GW "CatchShares" := X
  have hl : lv_has ls 7 [(0, .ref (ad 0 0)), (1, .int (jI (a))), (2, .int (jI (b))), (3, .int (jI (d))), (4, .long (jL (g)))] := hl
  have hI1 := hI.1
  have hI5 := hI.2.2.2.2.1
  refine lv_aload_n X.1 X.2.1 dc_C_transfer_0 rfl (lv_at hl 0 rfl) ?_
  refine lv_iload_n X.1 X.2.1 dc_C_transfer_1 rfl (lv_at hl 1 rfl) ?_
  by_cases hs_1 : 0 ≤ a ∧ a < S 0 0 0
  · obtain ⟨i, rfl⟩ : ∃ i : Nat, a = (i : Int) := ⟨a.toNat, by omega⟩
    have hi : (i : Int) < S 0 0 0 := hs_1.2
    refine cx_cVN (As := [.int (jI (i : Int))]) (rest := []) X B kc_C_findStock gm_C_62 (c_C_findStock l u ad S sc hI i hi) (fun _ _ _ h => h) (wC_0 u ad S sc) rfl rfl ⟨(Nat.le_of_ble_eq_true rfl), (Nat.le_of_ble_eq_true rfl)⟩ ⟨(Nat.le_of_ble_eq_true rfl), (Nat.le_of_ble_eq_true rfl)⟩ rfl hl.1 (Nat.le_of_ble_eq_true rfl) dc_C_transfer_2 rfl ?_
    refine lv_astore (lv' := [(6, .ref (ad 14 i)), (0, .ref (ad 0 0)), (1, .int (jI ((i : Int)))), (2, .int (jI (b))), (3, .int (jI (d))), (4, .long (jL (g)))]) X.1 X.2.1 dc_C_transfer_5 hl (by decide) rfl (fun ls hl => ?_)
    refine lv_aload X.1 X.2.1 dc_C_transfer_7 (lv_at hl 0 rfl) ?_
    refine lv_ifnull X.1 X.2.1 dc_C_transfer_9 ?_
    refine lv_aload_n X.1 X.2.1 dc_C_transfer_12 rfl (lv_at hl 1 rfl) ?_
    refine lv_iload_n X.1 X.2.1 dc_C_transfer_13 rfl (lv_at hl 3 rfl) ?_
    refine cx_cVN (r := .int (jI (jB (0 ≤ b ∧ b < S 1 0 0)))) (As := [.int (jI (b))]) (rest := []) X B kc_C_isHolder gm_C_66 (c_C_isHolder l u ad S sc hI b (by omega) (by omega)) (fun _ _ _ h => h) (wC_0 u ad S sc) rfl rfl ⟨(Nat.le_of_ble_eq_true rfl), (Nat.le_of_ble_eq_true rfl)⟩ ⟨(Nat.le_of_ble_eq_true rfl), (Nat.le_of_ble_eq_true rfl)⟩ rfl hl.1 (Nat.le_of_ble_eq_true rfl) dc_C_transfer_14 rfl ?_
    refine cx_ifeqB (tgt := 33) X dc_C_transfer_17 (by decide) (fun c_2 => ?_) (fun c_2 => ?_)
    · refine cx_iconst X dc_C_transfer_33 ?_
      have hQ : ¬ (0 ≤ (i : Int) ∧ (i : Int) < S 0 0 0 ∧ 0 ≤ b ∧ b < S 1 0 0 ∧ 0 ≤ d ∧ d < S 1 0 0 ∧ b ≠ d ∧ S 14 (i : Int).toNat 0 = 1 ∧ 1 ≤ g ∧ g ≤ 1000000000) := by (try simp only [cs_nn]); omega
      exact cx_iretM X B hsz hr hlk (Nat.le_of_ble_eq_true rfl) (Nat.le_of_ble_eq_true rfl) (by rw [cs_trQ, if_neg hQ]) (by rw [op_tr, if_neg (fun q => hQ q.1)]) dc_C_transfer_34
    · obtain ⟨h, rfl⟩ : ∃ h : Nat, b = (h : Int) := ⟨b.toNat, by omega⟩
      refine lv_aload_n X.1 X.2.1 dc_C_transfer_20 rfl (lv_at hl 1 rfl) ?_
      refine lv_iload_n X.1 X.2.1 dc_C_transfer_21 rfl (lv_at hl 4 rfl) ?_
      refine cx_cVN (r := .int (jI (jB (0 ≤ d ∧ d < S 1 0 0)))) (As := [.int (jI (d))]) (rest := []) X B kc_C_isHolder gm_C_66 (c_C_isHolder l u ad S sc hI d (by omega) (by omega)) (fun _ _ _ h => h) (wC_0 u ad S sc) rfl rfl ⟨(Nat.le_of_ble_eq_true rfl), (Nat.le_of_ble_eq_true rfl)⟩ ⟨(Nat.le_of_ble_eq_true rfl), (Nat.le_of_ble_eq_true rfl)⟩ rfl hl.1 (Nat.le_of_ble_eq_true rfl) dc_C_transfer_22 rfl ?_
      refine cx_ifeqB (tgt := 33) X dc_C_transfer_25 (by decide) (fun c_3 => ?_) (fun c_3 => ?_)
      · refine cx_iconst X dc_C_transfer_33 ?_
        have hQ : ¬ (0 ≤ (i : Int) ∧ (i : Int) < S 0 0 0 ∧ 0 ≤ (h : Int) ∧ (h : Int) < S 1 0 0 ∧ 0 ≤ d ∧ d < S 1 0 0 ∧ (h : Int) ≠ d ∧ S 14 (i : Int).toNat 0 = 1 ∧ 1 ≤ g ∧ g ≤ 1000000000) := by (try simp only [cs_nn]); omega
        exact cx_iretM X B hsz hr hlk (Nat.le_of_ble_eq_true rfl) (Nat.le_of_ble_eq_true rfl) (by rw [cs_trQ, if_neg hQ]) (by rw [op_tr, if_neg (fun q => hQ q.1)]) dc_C_transfer_34
      · obtain ⟨k, rfl⟩ : ∃ k : Nat, d = (k : Int) := ⟨d.toNat, by omega⟩
        refine lv_iload_n X.1 X.2.1 dc_C_transfer_28 rfl (lv_at hl 3 rfl) ?_
        refine lv_iload_n X.1 X.2.1 dc_C_transfer_29 rfl (lv_at hl 4 rfl) ?_
        refine cx_icmp_ne (tgt := 35) X (by omega) (by omega) (by omega) (by omega) dc_C_transfer_30 (by decide) (fun c_4 => ?_) (fun c_4 => ?_)
        · refine lv_aload X.1 X.2.1 dc_C_transfer_35 (lv_at hl 0 rfl) ?_
          refine cx_get (v := .int (jI (S 14 i 0))) X B (wC_14 u ad S sc hi) rfl uw_S 5 (by decide) gf_C_69 rfl dc_C_transfer_37 ?_
          have r_5 := hI5 i
          refine cx_if_eq (tgt := 55) X (by omega) (by omega) dc_C_transfer_40 (by decide) (fun c_6 => ?_) (fun c_6 => ?_)
          · refine cx_iconst X dc_C_transfer_55 ?_
            have hQ : ¬ (0 ≤ (i : Int) ∧ (i : Int) < S 0 0 0 ∧ 0 ≤ (h : Int) ∧ (h : Int) < S 1 0 0 ∧ 0 ≤ (k : Int) ∧ (k : Int) < S 1 0 0 ∧ (h : Int) ≠ (k : Int) ∧ S 14 (i : Int).toNat 0 = 1 ∧ 1 ≤ g ∧ g ≤ 1000000000) := by (try simp only [cs_nn]); omega
            exact cx_iretM X B hsz hr hlk (Nat.le_of_ble_eq_true rfl) (Nat.le_of_ble_eq_true rfl) (by rw [cs_trQ, if_neg hQ]) (by rw [op_tr, if_neg (fun q => hQ q.1)]) dc_C_transfer_56
          · refine lv_lload X.1 X.2.1 dc_C_transfer_43 (lv_at hl 5 rfl) ?_
            refine cx_lconst (a := 1) X dc_C_transfer_45 (by decide +kernel) ?_
            refine cx_ldc2 (a := 1000000000) X gk_C_46 (by decide +kernel) dc_C_transfer_46 ?_
            refine cx_cSN (r := .int (jI (jB (1 ≤ g ∧ g ≤ 1000000000)))) (As := [.long (jL (g)), .long (jL (1)), .long (jL (1000000000))]) (rest := []) X B kc_C_isWithin gm_C_48 (c_C_isWithin l u _ g 1 1000000000 (by omega) (by omega) (by omega) (by omega) (by omega) (by omega)) (fun _ _ _ h => h) ⟨(Nat.le_of_ble_eq_true rfl), (Nat.le_of_ble_eq_true rfl)⟩ ⟨(Nat.le_of_ble_eq_true rfl), (Nat.le_of_ble_eq_true rfl)⟩ rfl hl.1 (Nat.le_of_ble_eq_true rfl) dc_C_transfer_49 rfl ?_
            refine cx_ifneB (tgt := 57) X dc_C_transfer_52 (by decide) (fun c_7 => ?_) (fun c_7 => ?_)
            · refine lv_aload_n X.1 X.2.1 dc_C_transfer_57 rfl (lv_at hl 1 rfl) ?_
              refine lv_aload X.1 X.2.1 dc_C_transfer_58 (lv_at hl 0 rfl) ?_
              refine lv_iload_n X.1 X.2.1 dc_C_transfer_60 rfl (lv_at hl 3 rfl) ?_
              refine cx_cVN (r := .long (jL (cs_lf S i h))) (As := [.ref (ad 14 i), .int (jI ((h : Int)))]) (rest := []) X B kc_C_leftInAll gm_C_116 (c_C_leftInAll l u ad S sc hI i h hi (by omega)) (fun _ _ _ h => h) (wC_0 u ad S sc) rfl rfl ⟨(Nat.le_of_ble_eq_true rfl), (Nat.le_of_ble_eq_true rfl)⟩ ⟨(Nat.le_of_ble_eq_true rfl), (Nat.le_of_ble_eq_true rfl)⟩ rfl hl.1 (Nat.le_of_ble_eq_true rfl) dc_C_transfer_61 rfl ?_
              have r_8 := cs_lf_b hI i h
              refine lv_lload X.1 X.2.1 dc_C_transfer_64 (lv_at hl 5 rfl) ?_
              refine cx_lcmp_ge (tgt := 72) X (by omega) (by omega) (by omega) (by omega) dc_C_transfer_66 dc_C_transfer_67 (by decide) (fun c_9 => ?_) (fun c_9 => ?_)
              · refine lv_aload X.1 X.2.1 dc_C_transfer_72 (lv_at hl 0 rfl) ?_
                refine cx_get (v := .ref (ad 16 i)) X B (wC_14 u ad S sc hi) rfl uw_S 3 (by decide) gf_C_103 rfl dc_C_transfer_74 ?_
                refine lv_iload_n X.1 X.2.1 dc_C_transfer_77 rfl (lv_at hl 3 rfl) ?_
                have hne : k ≠ h := by omega
                refine lv_dup2_11 X.1 X.2.1 dc_C_transfer_78 rfl rfl ?_
                refine cx_lald X B (wC_16 u ad S sc hi) (h) (by omega) (by omega) (by decide) dc_C_transfer_79 ?_
                refine lv_lload X.1 X.2.1 dc_C_transfer_80 (lv_at hl 5 rfl) ?_
                refine cx_lsub X dc_C_transfer_82 ?_
                refine cx_last X B (wC_16 u ad S sc hi) (h) (by omega) (by omega) (by decide) dc_C_transfer_83 (fun H locs B => ?_)
                have B : cx_B u (cx_A (wC u ad S sc) sz) (cx_up (wC u ad S sc) 16 i (ad 16 i, .inl (u.2 1, 12, .inr (.inl (fun z_ => jL (va_up (fun z_ => S 21 i z_) h ((S 21 i h) - g) z_)))))) s H locs := B
                refine lv_aload X.1 X.2.1 dc_C_transfer_84 (lv_at hl 0 rfl) ?_
                refine cx_get (v := .ref (ad 16 i)) X B ((cx_up_n _ _ (fun q => absurd q.1 (by decide))).trans (wC_14 u ad S sc hi)) rfl uw_S 3 (by decide) gf_C_103 rfl dc_C_transfer_86 ?_
                refine lv_iload_n X.1 X.2.1 dc_C_transfer_89 rfl (lv_at hl 4 rfl) ?_
                refine lv_dup2_11 X.1 X.2.1 dc_C_transfer_90 rfl rfl ?_
                refine cx_lald X B (cx_up_s _ _ _ _) (k) (by omega) (by omega) (by decide) dc_C_transfer_91 ?_
                rw [va_up_ne _ _ hne]
                refine lv_lload X.1 X.2.1 dc_C_transfer_92 (lv_at hl 5 rfl) ?_
                refine cx_ladd X dc_C_transfer_94 ?_
                refine cx_last X B (cx_up_s _ _ _ _) (k) (by omega) (by omega) (by decide) dc_C_transfer_95 (fun H locs B => ?_)
                have B : cx_B u (cx_A (wC u ad S sc) sz) (cx_up (cx_up (wC u ad S sc) 16 i (ad 16 i, .inl (u.2 1, 12, .inr (.inl (fun z_ => jL (va_up (fun z_ => S 21 i z_) h ((S 21 i h) - g) z_)))))) 16 i (ad 16 i, .inl (u.2 1, 12, .inr (.inl (fun z_ => jL (va_up (fun z_ => va_up (fun z_ => S 21 i z_) h ((S 21 i h) - g) z_) k ((S 21 i k) + g) z_)))))) s H locs := B
                refine cx_iconst X dc_C_transfer_96 ?_
                have hQ : 0 ≤ (i : Int) ∧ (i : Int) < S 0 0 0 ∧ 0 ≤ (h : Int) ∧ (h : Int) < S 1 0 0 ∧ 0 ≤ (k : Int) ∧ (k : Int) < S 1 0 0 ∧ (h : Int) ≠ (k : Int) ∧ S 14 (i : Int).toNat 0 = 1 ∧ 1 ≤ g ∧ g ≤ 1000000000 := by (try simp only [cs_nn]); omega
                have hG : cx_up (cx_up (wC u ad S sc) 16 i (ad 16 i, .inl (u.2 1, 12, .inr (.inl (fun z_ => jL (va_up (fun z_ => S 21 i z_) h ((S 21 i h) - g) z_)))))) 16 i (ad 16 i, .inl (u.2 1, 12, .inr (.inl (fun z_ => jL (va_up (fun z_ => va_up (fun z_ => S 21 i z_) h ((S 21 i h) - g) z_) k ((S 21 i k) + g) z_))))) = wC u ad (op_tr S (i : Int) (h : Int) (k : Int) g) sc := by
                  rw [op_tr, if_pos ⟨hQ, by simp only [cs_nn]; omega⟩]
                  funext k j
                  match k with
                  | 0 => by_cases hz : j = 0 <;> simp [cx_up, wC, cs_u, hz, va_upE, Int.toNat_natCast, hi]
                  | 1 => by_cases hz : j = 0 <;> simp [cx_up, wC, cs_u, hz, va_upE, Int.toNat_natCast, hi]
                  | 2 => by_cases hz : j = 0 <;> simp [cx_up, wC, cs_u, hz, va_upE, Int.toNat_natCast, hi]
                  | 3 => by_cases hz : j = 0 <;> simp [cx_up, wC, cs_u, hz, va_upE, Int.toNat_natCast, hi]
                  | 4 => by_cases hz : j = 0 <;> simp [cx_up, wC, cs_u, hz, va_upE, Int.toNat_natCast, hi]
                  | 5 => by_cases hz : j = 0 <;> simp [cx_up, wC, cs_u, hz, va_upE, Int.toNat_natCast, hi]
                  | 6 => by_cases hz : j = 0 <;> simp [cx_up, wC, cs_u, hz, va_upE, Int.toNat_natCast, hi]
                  | 7 => by_cases hz : j = 0 <;> simp [cx_up, wC, cs_u, hz, va_upE, Int.toNat_natCast, hi]
                  | 8 => by_cases hz : j = 0 <;> simp [cx_up, wC, cs_u, hz, va_upE, Int.toNat_natCast, hi]
                  | 9 => by_cases hz : j = 0 <;> simp [cx_up, wC, cs_u, hz, va_upE, Int.toNat_natCast, hi]
                  | 10 => by_cases hz : j = 0 <;> simp [cx_up, wC, cs_u, hz, va_upE, Int.toNat_natCast, hi]
                  | 11 => by_cases hz : j = 0 <;> simp [cx_up, wC, cs_u, hz, va_upE, Int.toNat_natCast, hi]
                  | 12 => by_cases hz : j = 0 <;> simp [cx_up, wC, cs_u, hz, va_upE, Int.toNat_natCast, hi]
                  | 13 => by_cases hz : j = 0 <;> simp [cx_up, wC, cs_u, hz, va_upE, Int.toNat_natCast, hi]
                  | 14 => by_cases hj0 : j = i <;> simp [cx_up, wC, cs_u, va_upE, Int.toNat_natCast, hi, hj0]
                  | 15 => by_cases hj0 : j = i <;> simp [cx_up, wC, cs_u, va_upE, Int.toNat_natCast, hi, hj0]
                  | 16 => by_cases hj0 : j = i <;> simp [cx_up, wC, cs_u, va_upE, Int.toNat_natCast, hi, hj0]
                  | k + 17 => simp [cx_up, wC]
                exact cx_iretM X B hsz hr hlk (Nat.le_of_ble_eq_true rfl) (Nat.le_of_ble_eq_true rfl) (by rw [cs_trQ, if_pos hQ, cs_nn, cs_nn, if_neg (by omega)]) (hG) dc_C_transfer_97
              · refine cx_iconst X dc_C_transfer_70 ?_
                have hQ : 0 ≤ (i : Int) ∧ (i : Int) < S 0 0 0 ∧ 0 ≤ (h : Int) ∧ (h : Int) < S 1 0 0 ∧ 0 ≤ (k : Int) ∧ (k : Int) < S 1 0 0 ∧ (h : Int) ≠ (k : Int) ∧ S 14 (i : Int).toNat 0 = 1 ∧ 1 ≤ g ∧ g ≤ 1000000000 := by (try simp only [cs_nn]); omega
                exact cx_iretM X B hsz hr hlk (Nat.le_of_ble_eq_true rfl) (Nat.le_of_ble_eq_true rfl) (by rw [cs_trQ, if_pos hQ, cs_nn, cs_nn, if_pos (by omega)]) (by rw [op_tr, if_neg (fun q => by have q1 := q.2; simp only [cs_nn] at q1; omega)]) dc_C_transfer_71
            · refine cx_iconst X dc_C_transfer_55 ?_
              have hQ : ¬ (0 ≤ (i : Int) ∧ (i : Int) < S 0 0 0 ∧ 0 ≤ (h : Int) ∧ (h : Int) < S 1 0 0 ∧ 0 ≤ (k : Int) ∧ (k : Int) < S 1 0 0 ∧ (h : Int) ≠ (k : Int) ∧ S 14 (i : Int).toNat 0 = 1 ∧ 1 ≤ g ∧ g ≤ 1000000000) := by (try simp only [cs_nn]); omega
              exact cx_iretM X B hsz hr hlk (Nat.le_of_ble_eq_true rfl) (Nat.le_of_ble_eq_true rfl) (by rw [cs_trQ, if_neg hQ]) (by rw [op_tr, if_neg (fun q => hQ q.1)]) dc_C_transfer_56
        · refine cx_iconst X dc_C_transfer_33 ?_
          have hQ : ¬ (0 ≤ (i : Int) ∧ (i : Int) < S 0 0 0 ∧ 0 ≤ (h : Int) ∧ (h : Int) < S 1 0 0 ∧ 0 ≤ (k : Int) ∧ (k : Int) < S 1 0 0 ∧ (h : Int) ≠ (k : Int) ∧ S 14 (i : Int).toNat 0 = 1 ∧ 1 ≤ g ∧ g ≤ 1000000000) := by (try simp only [cs_nn]); omega
          exact cx_iretM X B hsz hr hlk (Nat.le_of_ble_eq_true rfl) (Nat.le_of_ble_eq_true rfl) (by rw [cs_trQ, if_neg hQ]) (by rw [op_tr, if_neg (fun q => hQ q.1)]) dc_C_transfer_34
  · refine cx_cVN (As := [.int (jI (a))]) (rest := []) X B kc_C_findStock gm_C_62 (c_C_findStock_0 l u ad S sc hI a (by omega) (by omega) hs_1) (fun _ _ _ h => h) (wC_0 u ad S sc) rfl rfl ⟨(Nat.le_of_ble_eq_true rfl), (Nat.le_of_ble_eq_true rfl)⟩ ⟨(Nat.le_of_ble_eq_true rfl), (Nat.le_of_ble_eq_true rfl)⟩ rfl hl.1 (Nat.le_of_ble_eq_true rfl) dc_C_transfer_2 rfl ?_
    refine lv_astoreN (lv' := [(6, .null), (0, .ref (ad 0 0)), (1, .int (jI (a))), (2, .int (jI (b))), (3, .int (jI (d))), (4, .long (jL (g)))]) X.1 X.2.1 dc_C_transfer_5 hl (by decide) rfl (fun ls hl => ?_)
    refine lv_aloadN X.1 X.2.1 dc_C_transfer_7 (lv_at hl 0 rfl) ?_
    refine lv_ifnullN (tgt := 33) X.1 X.2.1 dc_C_transfer_9 (by decide) ?_
    refine cx_iconst X dc_C_transfer_33 ?_
    have hQ : ¬ (0 ≤ a ∧ a < S 0 0 0 ∧ 0 ≤ b ∧ b < S 1 0 0 ∧ 0 ≤ d ∧ d < S 1 0 0 ∧ b ≠ d ∧ S 14 a.toNat 0 = 1 ∧ 1 ≤ g ∧ g ≤ 1000000000) := by (try simp only [cs_nn]); omega
    exact cx_iretM X B hsz hr hlk (Nat.le_of_ble_eq_true rfl) (Nat.le_of_ble_eq_true rfl) (by rw [cs_trQ, if_neg hQ]) (by rw [op_tr, if_neg (fun q => hQ q.1)]) dc_C_transfer_34
def op_sh (S : cs_S) (i h : Nat) (c : Int) : cs_S := cs_u (cs_u S 21 i h (S 21 i h + c)) 22 i 0 (S 22 i 0 + c)
set_option maxHeartbeats 4000000 in
set_option maxRecDepth 100000 in
theorem c_S_swapShare (l : Launch) (u : cx_U) (sz : Nat) (ad : Nat → Nat → Nat) (S : cs_S) (sc : Nat → Nat → Int) (i h : Nat) (hi : (i : Int) < S 0 0 0) (hh : h < 12) (cg : Int) : cx_M l u mn_S_swapShare bc_S_swapShare 4 none 0 0 [.ref (ad 14 i), .int (jI ((h : Int))), .long (jL (cg))] (wC u ad S sc) sz (none) (fun w' => w' = wC u ad (op_sh S i h cg) sc) 0 0 := by
  refine cx_M.of (by decide +kernel) (Nat.le_of_ble_eq_true rfl) ?_
  intro p e s m args below meth c ls hsz X hr hlk hin B hl
  have X : CallFix p m c bc_S_swapShare 4 s args GW "CatchShares$Stock" := X
  have hl : lv_has ls 4 [(0, .ref (ad 14 i)), (1, .int (jI ((h : Int)))), (2, .long (jL (cg)))] := hl
  refine lv_aload_n X.1 X.2.1 dc_S_swapShare_0 rfl (lv_at hl 0 rfl) ?_
  refine cx_get (v := .ref (ad 16 i)) X B (wC_14 u ad S sc hi) rfl uw_S 3 (by decide) gf_S_23 rfl dc_S_swapShare_1 ?_
  refine lv_iload_n X.1 X.2.1 dc_S_swapShare_4 rfl (lv_at hl 1 rfl) ?_
  refine lv_dup2_11 X.1 X.2.1 dc_S_swapShare_5 rfl rfl ?_
  refine cx_lald X B (wC_16 u ad S sc hi) (h) (by omega) (by omega) (by decide) dc_S_swapShare_6 ?_
  refine lv_lload_n X.1 X.2.1 dc_S_swapShare_7 rfl (lv_at hl 2 rfl) ?_
  refine cx_ladd X dc_S_swapShare_8 ?_
  refine cx_last X B (wC_16 u ad S sc hi) (h) (by omega) (by omega) (by decide) dc_S_swapShare_9 (fun H locs B => ?_)
  have B : cx_B u (cx_A (wC u ad S sc) sz) (cx_up (wC u ad S sc) 16 i (ad 16 i, .inl (u.2 1, 12, .inr (.inl (fun z_ => jL (va_up (fun z_ => S 21 i z_) h ((S 21 i h) + cg) z_)))))) s H locs := B
  refine lv_aload_n X.1 X.2.1 dc_S_swapShare_10 rfl (lv_at hl 0 rfl) ?_
  refine lv_dup X.1 X.2.1 dc_S_swapShare_11 rfl ?_
  refine cx_get (v := .long (jL (S 22 i 0))) X B ((cx_up_n _ _ (fun q => absurd q.1 (by decide))).trans (wC_14 u ad S sc hi)) rfl uw_S 10 (by decide) gf_S_47 rfl dc_S_swapShare_12 ?_
  refine lv_lload_n X.1 X.2.1 dc_S_swapShare_15 rfl (lv_at hl 2 rfl) ?_
  refine cx_ladd X dc_S_swapShare_16 ?_
  refine cx_put (v := .long (jL ((S 22 i 0) + cg))) X B ((cx_up_n _ _ (fun q => absurd q.1 (by decide))).trans (wC_14 u ad S sc hi)) rfl uw_S ft_S fo_S fn_S 10 (by decide) gf_S_47 rfl (fo_S 10 (by decide)) rfl rfl (Nat.le_of_ble_eq_true rfl) dc_S_swapShare_17 (fun H locs B => ?_)
  have B : cx_B u (cx_A (wC u ad S sc) sz) (cx_up (cx_up (wC u ad S sc) 16 i (ad 16 i, .inl (u.2 1, 12, .inr (.inl (fun z_ => jL (va_up (fun z_ => S 21 i z_) h ((S 21 i h) + cg) z_)))))) 14 i (ad 14 i, .inr (2, [.int (jI ((i : Int))), .long (jL (S 12 i 0)), .ref (ad 15 i), .ref (ad 16 i), .long (jL (S 13 i 0)), .int (jI (S 14 i 0)), .int (jI (S 15 i 0)), .int (jI (S 16 i 0)), .long (jL (S 17 i 0)), .long (jL (S 18 i 0)), .long (jL ((S 22 i 0) + cg))]))) s H locs := B
  have hG : cx_up (cx_up (wC u ad S sc) 16 i (ad 16 i, .inl (u.2 1, 12, .inr (.inl (fun z_ => jL (va_up (fun z_ => S 21 i z_) h ((S 21 i h) + cg) z_)))))) 14 i (ad 14 i, .inr (2, [.int (jI ((i : Int))), .long (jL (S 12 i 0)), .ref (ad 15 i), .ref (ad 16 i), .long (jL (S 13 i 0)), .int (jI (S 14 i 0)), .int (jI (S 15 i 0)), .int (jI (S 16 i 0)), .long (jL (S 17 i 0)), .long (jL (S 18 i 0)), .long (jL ((S 22 i 0) + cg))])) = wC u ad (op_sh S i h cg) sc := by
    unfold op_sh
    funext k j
    match k with
    | 0 => by_cases hz : j = 0 <;> simp [cx_up, wC, cs_u, hz, va_upE, Int.toNat_natCast, hi]
    | 1 => by_cases hz : j = 0 <;> simp [cx_up, wC, cs_u, hz, va_upE, Int.toNat_natCast, hi]
    | 2 => by_cases hz : j = 0 <;> simp [cx_up, wC, cs_u, hz, va_upE, Int.toNat_natCast, hi]
    | 3 => by_cases hz : j = 0 <;> simp [cx_up, wC, cs_u, hz, va_upE, Int.toNat_natCast, hi]
    | 4 => by_cases hz : j = 0 <;> simp [cx_up, wC, cs_u, hz, va_upE, Int.toNat_natCast, hi]
    | 5 => by_cases hz : j = 0 <;> simp [cx_up, wC, cs_u, hz, va_upE, Int.toNat_natCast, hi]
    | 6 => by_cases hz : j = 0 <;> simp [cx_up, wC, cs_u, hz, va_upE, Int.toNat_natCast, hi]
    | 7 => by_cases hz : j = 0 <;> simp [cx_up, wC, cs_u, hz, va_upE, Int.toNat_natCast, hi]
    | 8 => by_cases hz : j = 0 <;> simp [cx_up, wC, cs_u, hz, va_upE, Int.toNat_natCast, hi]
    | 9 => by_cases hz : j = 0 <;> simp [cx_up, wC, cs_u, hz, va_upE, Int.toNat_natCast, hi]
    | 10 => by_cases hz : j = 0 <;> simp [cx_up, wC, cs_u, hz, va_upE, Int.toNat_natCast, hi]
    | 11 => by_cases hz : j = 0 <;> simp [cx_up, wC, cs_u, hz, va_upE, Int.toNat_natCast, hi]
    | 12 => by_cases hz : j = 0 <;> simp [cx_up, wC, cs_u, hz, va_upE, Int.toNat_natCast, hi]
    | 13 => by_cases hz : j = 0 <;> simp [cx_up, wC, cs_u, hz, va_upE, Int.toNat_natCast, hi]
    | 14 => by_cases hj0 : j = i <;> simp [cx_up, wC, cs_u, va_upE, Int.toNat_natCast, hi, hj0]
    | 15 => by_cases hj0 : j = i <;> simp [cx_up, wC, cs_u, va_upE, Int.toNat_natCast, hi, hj0]
    | 16 => by_cases hj0 : j = i <;> simp [cx_up, wC, cs_u, va_upE, Int.toNat_natCast, hi, hj0]
    | k + 17 => simp [cx_up, wC]
  exact cx_vretM X B hsz hr hlk (Nat.le_of_ble_eq_true rfl) (Nat.le_of_ble_eq_true rfl) hG dc_S_swapShare_20
def cs_swQ (S : cs_S) (a b x y d g : Int) : Int := if 0 ≤ a ∧ a < S 0 0 0 ∧ 0 ≤ b ∧ b < S 0 0 0 ∧ 0 ≤ d ∧ d < S 1 0 0 ∧ a ≠ b ∧ S 14 a.toNat 0 = 1 ∧ S 14 b.toNat 0 = 1 ∧ 1 ≤ x ∧ x ≤ 1000 ∧ 1 ≤ y ∧ y ≤ 1000 ∧ 1 ≤ g ∧ g ≤ 1000000000 then (if cs_lf S a.toNat d.toNat < g then 1 else if (g * x) % y ≠ 0 ∨ 2000000000 < cs_sum (S 21 b.toNat) 12 + (g * x) / y then 2 else 0) else -1
def op_sw (S : cs_S) (a b x y d g : Int) : cs_S := if (0 ≤ a ∧ a < S 0 0 0 ∧ 0 ≤ b ∧ b < S 0 0 0 ∧ 0 ≤ d ∧ d < S 1 0 0 ∧ a ≠ b ∧ S 14 a.toNat 0 = 1 ∧ S 14 b.toNat 0 = 1 ∧ 1 ≤ x ∧ x ≤ 1000 ∧ 1 ≤ y ∧ y ≤ 1000 ∧ 1 ≤ g ∧ g ≤ 1000000000) ∧ g ≤ cs_lf S a.toNat d.toNat ∧ (g * x) % y = 0 ∧ cs_sum (S 21 b.toNat) 12 + (g * x) / y ≤ 2000000000 then cs_u (cs_u (op_sh (op_sh S a.toNat d.toNat (-g)) b.toNat d.toNat ((g * x) / y)) 19 a.toNat 0 (S 19 a.toNat 0 - g)) 19 b.toNat 0 (S 19 b.toNat 0 + (g * x) / y) else S
theorem cs_gx {g x y : Int} (h1 : 1 ≤ g) (h2 : g ≤ 1000000000) (h3 : 1 ≤ x) (h4 : x ≤ 1000) (h5 : 1 ≤ y) (h6 : y ≤ 1000) : 1 ≤ g * x ∧ g * x ≤ 1000000000000 ∧ 0 ≤ (g * x) % y ∧ (g * x) % y < 1000 ∧ 0 ≤ (g * x) / y ∧ (g * x) / y ≤ g * x := by
  have q1 := Int.mul_le_mul h1 h3 (by omega) (by omega : (0 : Int) ≤ g)
  have q2 := Int.mul_le_mul h2 h4 (by omega) (by omega : (0 : Int) ≤ 1000000000)
  have q3 := Int.emod_nonneg (g * x) (by omega : y ≠ 0)
  have q4 := Int.emod_lt_of_pos (g * x) (by omega : 0 < y)
  have q5 := cs_div_b (a := g * x) (b := y) (by omega) (by omega)
  omega
theorem cs_shs_b {S : cs_S} (hI : cs_I S) (i : Nat) : 0 ≤ cs_sum (S 21 i) 12 ∧ cs_sum (S 21 i) 12 ≤ 2000000000 := by
  have h1 := hI.2.2.2.2.2.2 i
  have h2 := cs_sum_b (f := S 21 i) (a := 0) (b := 2000000000) (n := 12) (fun k _ => by have := hI.2.2.2.2.2.1 i k; omega)
  omega
set_option maxHeartbeats 4000000 in
set_option maxRecDepth 100000 in
theorem c_C_swap (l : Launch) (u : cx_U) (sz : Nat) (ad : Nat → Nat → Nat) (S : cs_S) (sc : Nat → Nat → Int) (hI : cs_I S) (a b x y d g : Int) (a1 : -2147483648 ≤ a) (a2 : a ≤ 2147483647) (b1 : -2147483648 ≤ b) (b2 : b ≤ 2147483647) (x1 : -2147483648 ≤ x) (x2 : x ≤ 2147483647) (y1 : -2147483648 ≤ y) (y2 : y ≤ 2147483647) (d1 : -2147483648 ≤ d) (d2 : d ≤ 2147483647) (g1 : -9223372036854775808 ≤ g) (g2 : g ≤ 9223372036854775807) : cx_M l u mn_C_swap bc_C_swap 14 (some .int) 3 71 [.ref (ad 0 0), .int (jI (a)), .int (jI (b)), .int (jI (x)), .int (jI (y)), .int (jI (d)), .long (jL (g))] (wC u ad S sc) sz (some (.int (jI (cs_swQ S a b x y d g)))) (fun w' => w' = wC u ad (op_sw S a b x y d g) sc) 0 0 := by
  refine cx_M.of (by decide +kernel) (Nat.le_of_ble_eq_true rfl) ?_
  intro p e s m args below meth c ls hsz X hr hlk hin B hl
  have X : CallFix p m c bc_C_swap 14 s args GW "CatchShares" := X
  have hl : lv_has ls 14 [(0, .ref (ad 0 0)), (1, .int (jI (a))), (2, .int (jI (b))), (3, .int (jI (x))), (4, .int (jI (y))), (5, .int (jI (d))), (6, .long (jL (g)))] := hl
  have hI1 := hI.1
  have hI5 := hI.2.2.2.2.1
  refine lv_aload_n X.1 X.2.1 dc_C_swap_0 rfl (lv_at hl 0 rfl) ?_
  refine lv_iload_n X.1 X.2.1 dc_C_swap_1 rfl (lv_at hl 1 rfl) ?_
  by_cases hs_1 : 0 ≤ a ∧ a < S 0 0 0
  · obtain ⟨i, rfl⟩ : ∃ i : Nat, a = (i : Int) := ⟨a.toNat, by omega⟩
    have hi : (i : Int) < S 0 0 0 := hs_1.2
    refine cx_cVN (As := [.int (jI (i : Int))]) (rest := []) X B kc_C_findStock gm_C_62 (c_C_findStock l u ad S sc hI i hi) (fun _ _ _ h => h) (wC_0 u ad S sc) rfl rfl ⟨(Nat.le_of_ble_eq_true rfl), (Nat.le_of_ble_eq_true rfl)⟩ ⟨(Nat.le_of_ble_eq_true rfl), (Nat.le_of_ble_eq_true rfl)⟩ rfl hl.1 (Nat.le_of_ble_eq_true rfl) dc_C_swap_2 rfl ?_
    refine lv_astore (lv' := [(8, .ref (ad 14 i)), (0, .ref (ad 0 0)), (1, .int (jI ((i : Int)))), (2, .int (jI (b))), (3, .int (jI (x))), (4, .int (jI (y))), (5, .int (jI (d))), (6, .long (jL (g)))]) X.1 X.2.1 dc_C_swap_5 hl (by decide) rfl (fun ls hl => ?_)
    refine lv_aload_n X.1 X.2.1 dc_C_swap_7 rfl (lv_at hl 1 rfl) ?_
    refine lv_iload_n X.1 X.2.1 dc_C_swap_8 rfl (lv_at hl 3 rfl) ?_
    by_cases hs_2 : 0 ≤ b ∧ b < S 0 0 0
    · obtain ⟨k, rfl⟩ : ∃ k : Nat, b = (k : Int) := ⟨b.toNat, by omega⟩
      have hk : (k : Int) < S 0 0 0 := hs_2.2
      refine cx_cVN (As := [.int (jI (k : Int))]) (rest := []) X B kc_C_findStock gm_C_62 (c_C_findStock l u ad S sc hI k hk) (fun _ _ _ h => h) (wC_0 u ad S sc) rfl rfl ⟨(Nat.le_of_ble_eq_true rfl), (Nat.le_of_ble_eq_true rfl)⟩ ⟨(Nat.le_of_ble_eq_true rfl), (Nat.le_of_ble_eq_true rfl)⟩ rfl hl.1 (Nat.le_of_ble_eq_true rfl) dc_C_swap_9 rfl ?_
      refine lv_astore (lv' := [(9, .ref (ad 14 k)), (8, .ref (ad 14 i)), (0, .ref (ad 0 0)), (1, .int (jI ((i : Int)))), (2, .int (jI ((k : Int)))), (3, .int (jI (x))), (4, .int (jI (y))), (5, .int (jI (d))), (6, .long (jL (g)))]) X.1 X.2.1 dc_C_swap_12 hl (by decide) rfl (fun ls hl => ?_)
      refine lv_aload X.1 X.2.1 dc_C_swap_14 (lv_at hl 1 rfl) ?_
      refine lv_ifnull X.1 X.2.1 dc_C_swap_16 ?_
      refine lv_aload X.1 X.2.1 dc_C_swap_19 (lv_at hl 0 rfl) ?_
      refine lv_ifnull X.1 X.2.1 dc_C_swap_21 ?_
      refine lv_aload_n X.1 X.2.1 dc_C_swap_24 rfl (lv_at hl 2 rfl) ?_
      refine lv_iload X.1 X.2.1 dc_C_swap_25 (lv_at hl 7 rfl) ?_
      refine cx_cVN (r := .int (jI (jB (0 ≤ d ∧ d < S 1 0 0)))) (As := [.int (jI (d))]) (rest := []) X B kc_C_isHolder gm_C_66 (c_C_isHolder l u ad S sc hI d (by omega) (by omega)) (fun _ _ _ h => h) (wC_0 u ad S sc) rfl rfl ⟨(Nat.le_of_ble_eq_true rfl), (Nat.le_of_ble_eq_true rfl)⟩ ⟨(Nat.le_of_ble_eq_true rfl), (Nat.le_of_ble_eq_true rfl)⟩ rfl hl.1 (Nat.le_of_ble_eq_true rfl) dc_C_swap_27 rfl ?_
      refine cx_ifeqB (tgt := 38) X dc_C_swap_30 (by decide) (fun c_3 => ?_) (fun c_3 => ?_)
      · refine cx_iconst X dc_C_swap_38 ?_
        have hQ : ¬ (0 ≤ (i : Int) ∧ (i : Int) < S 0 0 0 ∧ 0 ≤ (k : Int) ∧ (k : Int) < S 0 0 0 ∧ 0 ≤ d ∧ d < S 1 0 0 ∧ (i : Int) ≠ (k : Int) ∧ S 14 (i : Int).toNat 0 = 1 ∧ S 14 (k : Int).toNat 0 = 1 ∧ 1 ≤ x ∧ x ≤ 1000 ∧ 1 ≤ y ∧ y ≤ 1000 ∧ 1 ≤ g ∧ g ≤ 1000000000) := by (try simp only [cs_nn]); omega
        exact cx_iretM X B hsz hr hlk (Nat.le_of_ble_eq_true rfl) (Nat.le_of_ble_eq_true rfl) (by rw [cs_swQ, if_neg hQ]) (by rw [op_sw, if_neg (fun q => hQ q.1)]) dc_C_swap_39
      · obtain ⟨h, rfl⟩ : ∃ h : Nat, d = (h : Int) := ⟨d.toNat, by omega⟩
        refine lv_iload_n X.1 X.2.1 dc_C_swap_33 rfl (lv_at hl 3 rfl) ?_
        refine lv_iload_n X.1 X.2.1 dc_C_swap_34 rfl (lv_at hl 4 rfl) ?_
        refine cx_icmp_ne (tgt := 40) X (by omega) (by omega) (by omega) (by omega) dc_C_swap_35 (by decide) (fun c_4 => ?_) (fun c_4 => ?_)
        · refine lv_aload X.1 X.2.1 dc_C_swap_40 (lv_at hl 1 rfl) ?_
          refine cx_get (v := .int (jI (S 14 i 0))) X B (wC_14 u ad S sc hi) rfl uw_S 5 (by decide) gf_C_69 rfl dc_C_swap_42 ?_
          have r_5 := hI5 i
          refine cx_if_eq (tgt := 77) X (by omega) (by omega) dc_C_swap_45 (by decide) (fun c_6 => ?_) (fun c_6 => ?_)
          · refine cx_iconst X dc_C_swap_77 ?_
            have hQ : ¬ (0 ≤ (i : Int) ∧ (i : Int) < S 0 0 0 ∧ 0 ≤ (k : Int) ∧ (k : Int) < S 0 0 0 ∧ 0 ≤ (h : Int) ∧ (h : Int) < S 1 0 0 ∧ (i : Int) ≠ (k : Int) ∧ S 14 (i : Int).toNat 0 = 1 ∧ S 14 (k : Int).toNat 0 = 1 ∧ 1 ≤ x ∧ x ≤ 1000 ∧ 1 ≤ y ∧ y ≤ 1000 ∧ 1 ≤ g ∧ g ≤ 1000000000) := by (try simp only [cs_nn]); omega
            exact cx_iretM X B hsz hr hlk (Nat.le_of_ble_eq_true rfl) (Nat.le_of_ble_eq_true rfl) (by rw [cs_swQ, if_neg hQ]) (by rw [op_sw, if_neg (fun q => hQ q.1)]) dc_C_swap_78
          · refine lv_aload X.1 X.2.1 dc_C_swap_48 (lv_at hl 0 rfl) ?_
            refine cx_get (v := .int (jI (S 14 k 0))) X B (wC_14 u ad S sc hk) rfl uw_S 5 (by decide) gf_C_69 rfl dc_C_swap_50 ?_
            have r_7 := hI5 k
            refine cx_if_eq (tgt := 77) X (by omega) (by omega) dc_C_swap_53 (by decide) (fun c_8 => ?_) (fun c_8 => ?_)
            · refine cx_iconst X dc_C_swap_77 ?_
              have hQ : ¬ (0 ≤ (i : Int) ∧ (i : Int) < S 0 0 0 ∧ 0 ≤ (k : Int) ∧ (k : Int) < S 0 0 0 ∧ 0 ≤ (h : Int) ∧ (h : Int) < S 1 0 0 ∧ (i : Int) ≠ (k : Int) ∧ S 14 (i : Int).toNat 0 = 1 ∧ S 14 (k : Int).toNat 0 = 1 ∧ 1 ≤ x ∧ x ≤ 1000 ∧ 1 ≤ y ∧ y ≤ 1000 ∧ 1 ≤ g ∧ g ≤ 1000000000) := by (try simp only [cs_nn]); omega
              exact cx_iretM X B hsz hr hlk (Nat.le_of_ble_eq_true rfl) (Nat.le_of_ble_eq_true rfl) (by rw [cs_swQ, if_neg hQ]) (by rw [op_sw, if_neg (fun q => hQ q.1)]) dc_C_swap_78
            · refine lv_iload_n X.1 X.2.1 dc_C_swap_56 rfl (lv_at hl 5 rfl) ?_
              refine lv_iload X.1 X.2.1 dc_C_swap_57 (lv_at hl 6 rfl) ?_
              refine cx_cSN (r := .int (jI (jB (1 ≤ x ∧ x ≤ 1000 ∧ 1 ≤ y ∧ y ≤ 1000)))) (As := [.int (jI (x)), .int (jI (y))]) (rest := []) X B kc_C_isFraction gm_C_120 (c_C_isFraction l u _ x y (by omega) (by omega) (by omega) (by omega)) (fun _ _ _ h => h) ⟨(Nat.le_of_ble_eq_true rfl), (Nat.le_of_ble_eq_true rfl)⟩ ⟨(Nat.le_of_ble_eq_true rfl), (Nat.le_of_ble_eq_true rfl)⟩ rfl hl.1 (Nat.le_of_ble_eq_true rfl) dc_C_swap_59 rfl ?_
              refine cx_ifeqB (tgt := 77) X dc_C_swap_62 (by decide) (fun c_9 => ?_) (fun c_9 => ?_)
              · refine cx_iconst X dc_C_swap_77 ?_
                have hQ : ¬ (0 ≤ (i : Int) ∧ (i : Int) < S 0 0 0 ∧ 0 ≤ (k : Int) ∧ (k : Int) < S 0 0 0 ∧ 0 ≤ (h : Int) ∧ (h : Int) < S 1 0 0 ∧ (i : Int) ≠ (k : Int) ∧ S 14 (i : Int).toNat 0 = 1 ∧ S 14 (k : Int).toNat 0 = 1 ∧ 1 ≤ x ∧ x ≤ 1000 ∧ 1 ≤ y ∧ y ≤ 1000 ∧ 1 ≤ g ∧ g ≤ 1000000000) := by (try simp only [cs_nn]); omega
                exact cx_iretM X B hsz hr hlk (Nat.le_of_ble_eq_true rfl) (Nat.le_of_ble_eq_true rfl) (by rw [cs_swQ, if_neg hQ]) (by rw [op_sw, if_neg (fun q => hQ q.1)]) dc_C_swap_78
              · refine lv_lload X.1 X.2.1 dc_C_swap_65 (lv_at hl 8 rfl) ?_
                refine cx_lconst (a := 1) X dc_C_swap_67 (by decide +kernel) ?_
                refine cx_ldc2 (a := 1000000000) X gk_C_46 (by decide +kernel) dc_C_swap_68 ?_
                refine cx_cSN (r := .int (jI (jB (1 ≤ g ∧ g ≤ 1000000000)))) (As := [.long (jL (g)), .long (jL (1)), .long (jL (1000000000))]) (rest := []) X B kc_C_isWithin gm_C_48 (c_C_isWithin l u _ g 1 1000000000 (by omega) (by omega) (by omega) (by omega) (by omega) (by omega)) (fun _ _ _ h => h) ⟨(Nat.le_of_ble_eq_true rfl), (Nat.le_of_ble_eq_true rfl)⟩ ⟨(Nat.le_of_ble_eq_true rfl), (Nat.le_of_ble_eq_true rfl)⟩ rfl hl.1 (Nat.le_of_ble_eq_true rfl) dc_C_swap_71 rfl ?_
                refine cx_ifneB (tgt := 79) X dc_C_swap_74 (by decide) (fun c_10 => ?_) (fun c_10 => ?_)
                · refine lv_aload_n X.1 X.2.1 dc_C_swap_79 rfl (lv_at hl 2 rfl) ?_
                  refine lv_aload X.1 X.2.1 dc_C_swap_80 (lv_at hl 1 rfl) ?_
                  refine lv_iload X.1 X.2.1 dc_C_swap_82 (lv_at hl 7 rfl) ?_
                  refine cx_cVN (r := .long (jL (cs_lf S i h))) (As := [.ref (ad 14 i), .int (jI ((h : Int)))]) (rest := []) X B kc_C_leftInAll gm_C_116 (c_C_leftInAll l u ad S sc hI i h hi (by omega)) (fun _ _ _ h => h) (wC_0 u ad S sc) rfl rfl ⟨(Nat.le_of_ble_eq_true rfl), (Nat.le_of_ble_eq_true rfl)⟩ ⟨(Nat.le_of_ble_eq_true rfl), (Nat.le_of_ble_eq_true rfl)⟩ rfl hl.1 (Nat.le_of_ble_eq_true rfl) dc_C_swap_84 rfl ?_
                  have r_11 := cs_lf_b hI i h
                  refine lv_lload X.1 X.2.1 dc_C_swap_87 (lv_at hl 8 rfl) ?_
                  refine cx_lcmp_ge (tgt := 95) X (by omega) (by omega) (by omega) (by omega) dc_C_swap_89 dc_C_swap_90 (by decide) (fun c_12 => ?_) (fun c_12 => ?_)
                  · refine lv_lload X.1 X.2.1 dc_C_swap_95 (lv_at hl 8 rfl) ?_
                    refine lv_iload_n X.1 X.2.1 dc_C_swap_97 rfl (lv_at hl 5 rfl) ?_
                    refine cx_i2l X (by omega) (by omega) dc_C_swap_98 ?_
                    have hgx := cs_gx (g := g) (x := x) (y := y) (by omega) (by omega) (by omega) (by omega) (by omega) (by omega)
                    refine cx_lmul X dc_C_swap_99 ?_
                    refine lv_lstore (lv' := [(10, .long (jL (g * x))), (9, .ref (ad 14 k)), (8, .ref (ad 14 i)), (0, .ref (ad 0 0)), (1, .int (jI ((i : Int)))), (2, .int (jI ((k : Int)))), (3, .int (jI (x))), (4, .int (jI (y))), (5, .int (jI ((h : Int)))), (6, .long (jL (g)))]) X.1 X.2.1 dc_C_swap_100 hl (by decide) rfl (fun ls hl => ?_)
                    refine lv_lload X.1 X.2.1 dc_C_swap_102 (lv_at hl 0 rfl) ?_
                    refine lv_iload X.1 X.2.1 dc_C_swap_104 (lv_at hl 7 rfl) ?_
                    refine cx_i2l X (by omega) (by omega) dc_C_swap_106 ?_
                    refine cx_lrem X (by omega) (by omega) (by omega) (by omega) dc_C_swap_107 ?_
                    refine cx_lconst (a := 0) X dc_C_swap_108 (by decide +kernel) ?_
                    refine cx_lcmp_eq (tgt := 115) X (by omega) (by omega) (by omega) (by omega) dc_C_swap_109 dc_C_swap_110 (by decide) (fun c_13 => ?_) (fun c_13 => ?_)
                    · refine lv_lload X.1 X.2.1 dc_C_swap_115 (lv_at hl 0 rfl) ?_
                      refine lv_iload X.1 X.2.1 dc_C_swap_117 (lv_at hl 7 rfl) ?_
                      refine cx_i2l X (by omega) (by omega) dc_C_swap_119 ?_
                      refine cx_ldiv X (by omega) (by omega) (by omega) (by omega) dc_C_swap_120 ?_
                      refine lv_lstore (lv' := [(12, .long (jL ((g * x) / y))), (10, .long (jL (g * x))), (9, .ref (ad 14 k)), (8, .ref (ad 14 i)), (0, .ref (ad 0 0)), (1, .int (jI ((i : Int)))), (2, .int (jI ((k : Int)))), (3, .int (jI (x))), (4, .int (jI (y))), (5, .int (jI ((h : Int)))), (6, .long (jL (g)))]) X.1 X.2.1 dc_C_swap_121 hl (by decide) rfl (fun ls hl => ?_)
                      refine lv_aload X.1 X.2.1 dc_C_swap_123 (lv_at hl 2 rfl) ?_
                      refine cx_cVN (r := .long (jL (cs_sum (S 21 k) 12))) (As := []) (rest := []) X B kc_S_allShares gm_C_124 (c_S_allShares l u ad S sc hI k hk) (fun _ _ _ h => h) (wC_14 u ad S sc hk) rfl rfl ⟨(Nat.le_of_ble_eq_true rfl), (Nat.le_of_ble_eq_true rfl)⟩ ⟨(Nat.le_of_ble_eq_true rfl), (Nat.le_of_ble_eq_true rfl)⟩ rfl hl.1 (Nat.le_of_ble_eq_true rfl) dc_C_swap_125 rfl ?_
                      have r_14 := cs_shs_b hI k
                      refine lv_lload X.1 X.2.1 dc_C_swap_128 (lv_at hl 0 rfl) ?_
                      refine cx_ladd X dc_C_swap_130 ?_
                      refine cx_ldc2 (a := 2000000000) X gk_C_128 (by decide +kernel) dc_C_swap_131 ?_
                      refine cx_lcmp_le (tgt := 140) X (by omega) (by omega) (by omega) (by omega) dc_C_swap_134 dc_C_swap_135 (by decide) (fun c_15 => ?_) (fun c_15 => ?_)
                      · refine lv_aload X.1 X.2.1 dc_C_swap_140 (lv_at hl 3 rfl) ?_
                        refine lv_iload X.1 X.2.1 dc_C_swap_142 (lv_at hl 9 rfl) ?_
                        refine lv_lload X.1 X.2.1 dc_C_swap_144 (lv_at hl 10 rfl) ?_
                        refine cx_lneg X dc_C_swap_146 ?_
                        refine cx_cVM (As := [.int (jI ((h : Int))), .long (jL (-g))]) (rest := []) X B kc_S_swapShare gm_C_130 (c_S_swapShare l u _ ad S sc i h hi (by omega) (-g)) (wC_14 u ad S sc hi) rfl rfl ⟨(Nat.le_of_ble_eq_true rfl), (Nat.le_of_ble_eq_true rfl)⟩ ⟨(Nat.le_of_ble_eq_true rfl), (Nat.le_of_ble_eq_true rfl)⟩ rfl hl.1 (Nat.le_of_ble_eq_true rfl) dc_C_swap_147 rfl (fun H locs w' hw B => ?_)
                        subst hw
                        have hk1 : (k : Int) < (op_sh S i h (-g)) 0 0 0 := by simpa [op_sh, cs_u] using hk
                        refine lv_aload X.1 X.2.1 dc_C_swap_150 (lv_at hl 2 rfl) ?_
                        refine lv_iload X.1 X.2.1 dc_C_swap_152 (lv_at hl 9 rfl) ?_
                        refine lv_lload X.1 X.2.1 dc_C_swap_154 (lv_at hl 0 rfl) ?_
                        refine cx_cVM (As := [.int (jI ((h : Int))), .long (jL ((g * x) / y))]) (rest := []) X B kc_S_swapShare gm_C_130 (c_S_swapShare l u _ ad _ sc k h hk1 (by omega) ((g * x) / y)) (wC_14 u ad _ sc hk1) rfl rfl ⟨(Nat.le_of_ble_eq_true rfl), (Nat.le_of_ble_eq_true rfl)⟩ ⟨(Nat.le_of_ble_eq_true rfl), (Nat.le_of_ble_eq_true rfl)⟩ rfl hl.1 (Nat.le_of_ble_eq_true rfl) dc_C_swap_156 rfl (fun H locs w' hw B => ?_)
                        subst hw
                        refine cx_iconst X dc_C_swap_159 ?_
                        have hQ : 0 ≤ (i : Int) ∧ (i : Int) < S 0 0 0 ∧ 0 ≤ (k : Int) ∧ (k : Int) < S 0 0 0 ∧ 0 ≤ (h : Int) ∧ (h : Int) < S 1 0 0 ∧ (i : Int) ≠ (k : Int) ∧ S 14 (i : Int).toNat 0 = 1 ∧ S 14 (k : Int).toNat 0 = 1 ∧ 1 ≤ x ∧ x ≤ 1000 ∧ 1 ≤ y ∧ y ≤ 1000 ∧ 1 ≤ g ∧ g ≤ 1000000000 := by (try simp only [cs_nn]); omega
                        have hG : wC u ad (op_sh (op_sh S i h (-g)) k h ((g * x) / y)) sc = wC u ad (op_sw S (i : Int) (k : Int) x y (h : Int) g) sc := by
                          rw [op_sw, if_pos ⟨hQ, by simp only [cs_nn]; omega⟩]
                          unfold op_sh
                          funext k j
                          match k with
                          | 0 => by_cases hz : j = 0 <;> simp [cx_up, wC, cs_u, hz, va_upE, Int.toNat_natCast, hi, hk]
                          | 1 => by_cases hz : j = 0 <;> simp [cx_up, wC, cs_u, hz, va_upE, Int.toNat_natCast, hi, hk]
                          | 2 => by_cases hz : j = 0 <;> simp [cx_up, wC, cs_u, hz, va_upE, Int.toNat_natCast, hi, hk]
                          | 3 => by_cases hz : j = 0 <;> simp [cx_up, wC, cs_u, hz, va_upE, Int.toNat_natCast, hi, hk]
                          | 4 => by_cases hz : j = 0 <;> simp [cx_up, wC, cs_u, hz, va_upE, Int.toNat_natCast, hi, hk]
                          | 5 => by_cases hz : j = 0 <;> simp [cx_up, wC, cs_u, hz, va_upE, Int.toNat_natCast, hi, hk]
                          | 6 => by_cases hz : j = 0 <;> simp [cx_up, wC, cs_u, hz, va_upE, Int.toNat_natCast, hi, hk]
                          | 7 => by_cases hz : j = 0 <;> simp [cx_up, wC, cs_u, hz, va_upE, Int.toNat_natCast, hi, hk]
                          | 8 => by_cases hz : j = 0 <;> simp [cx_up, wC, cs_u, hz, va_upE, Int.toNat_natCast, hi, hk]
                          | 9 => by_cases hz : j = 0 <;> simp [cx_up, wC, cs_u, hz, va_upE, Int.toNat_natCast, hi, hk]
                          | 10 => by_cases hz : j = 0 <;> simp [cx_up, wC, cs_u, hz, va_upE, Int.toNat_natCast, hi, hk]
                          | 11 => by_cases hz : j = 0 <;> simp [cx_up, wC, cs_u, hz, va_upE, Int.toNat_natCast, hi, hk]
                          | 12 => by_cases hz : j = 0 <;> simp [cx_up, wC, cs_u, hz, va_upE, Int.toNat_natCast, hi, hk]
                          | 13 => by_cases hz : j = 0 <;> simp [cx_up, wC, cs_u, hz, va_upE, Int.toNat_natCast, hi, hk]
                          | 14 => by_cases hj0 : j = i <;> by_cases hj1 : j = k <;> simp [cx_up, wC, cs_u, va_upE, Int.toNat_natCast, hi, hk, hj0, hj1]
                          | 15 => by_cases hj0 : j = i <;> by_cases hj1 : j = k <;> simp [cx_up, wC, cs_u, va_upE, Int.toNat_natCast, hi, hk, hj0, hj1]
                          | 16 => by_cases hj0 : j = i <;> by_cases hj1 : j = k <;> simp [cx_up, wC, cs_u, va_upE, Int.toNat_natCast, hi, hk, hj0, hj1]
                          | k + 17 => simp [cx_up, wC]
                        exact cx_iretM X B hsz hr hlk (Nat.le_of_ble_eq_true rfl) (Nat.le_of_ble_eq_true rfl) (by rw [cs_swQ, if_pos hQ]; simp only [cs_nn]; rw [if_neg (by omega), if_neg (by omega)]) (hG) dc_C_swap_160
                      · refine cx_iconst X dc_C_swap_138 ?_
                        have hQ : 0 ≤ (i : Int) ∧ (i : Int) < S 0 0 0 ∧ 0 ≤ (k : Int) ∧ (k : Int) < S 0 0 0 ∧ 0 ≤ (h : Int) ∧ (h : Int) < S 1 0 0 ∧ (i : Int) ≠ (k : Int) ∧ S 14 (i : Int).toNat 0 = 1 ∧ S 14 (k : Int).toNat 0 = 1 ∧ 1 ≤ x ∧ x ≤ 1000 ∧ 1 ≤ y ∧ y ≤ 1000 ∧ 1 ≤ g ∧ g ≤ 1000000000 := by (try simp only [cs_nn]); omega
                        exact cx_iretM X B hsz hr hlk (Nat.le_of_ble_eq_true rfl) (Nat.le_of_ble_eq_true rfl) (by rw [cs_swQ, if_pos hQ]; simp only [cs_nn]; rw [if_neg (by omega), if_pos (by omega)]) (by rw [op_sw, if_neg (fun q => by have q1 := q.2.2; simp only [cs_nn] at q1; omega)]) dc_C_swap_139
                    · refine cx_iconst X dc_C_swap_113 ?_
                      have hQ : 0 ≤ (i : Int) ∧ (i : Int) < S 0 0 0 ∧ 0 ≤ (k : Int) ∧ (k : Int) < S 0 0 0 ∧ 0 ≤ (h : Int) ∧ (h : Int) < S 1 0 0 ∧ (i : Int) ≠ (k : Int) ∧ S 14 (i : Int).toNat 0 = 1 ∧ S 14 (k : Int).toNat 0 = 1 ∧ 1 ≤ x ∧ x ≤ 1000 ∧ 1 ≤ y ∧ y ≤ 1000 ∧ 1 ≤ g ∧ g ≤ 1000000000 := by (try simp only [cs_nn]); omega
                      exact cx_iretM X B hsz hr hlk (Nat.le_of_ble_eq_true rfl) (Nat.le_of_ble_eq_true rfl) (by rw [cs_swQ, if_pos hQ]; simp only [cs_nn]; rw [if_neg (by omega), if_pos (by omega)]) (by rw [op_sw, if_neg (fun q => by have q1 := q.2.2; simp only [cs_nn] at q1; omega)]) dc_C_swap_114
                  · refine cx_iconst X dc_C_swap_93 ?_
                    have hQ : 0 ≤ (i : Int) ∧ (i : Int) < S 0 0 0 ∧ 0 ≤ (k : Int) ∧ (k : Int) < S 0 0 0 ∧ 0 ≤ (h : Int) ∧ (h : Int) < S 1 0 0 ∧ (i : Int) ≠ (k : Int) ∧ S 14 (i : Int).toNat 0 = 1 ∧ S 14 (k : Int).toNat 0 = 1 ∧ 1 ≤ x ∧ x ≤ 1000 ∧ 1 ≤ y ∧ y ≤ 1000 ∧ 1 ≤ g ∧ g ≤ 1000000000 := by (try simp only [cs_nn]); omega
                    exact cx_iretM X B hsz hr hlk (Nat.le_of_ble_eq_true rfl) (Nat.le_of_ble_eq_true rfl) (by rw [cs_swQ, if_pos hQ]; simp only [cs_nn]; rw [if_pos (by omega)]) (by rw [op_sw, if_neg (fun q => by have q1 := q.2.1; simp only [cs_nn] at q1; omega)]) dc_C_swap_94
                · refine cx_iconst X dc_C_swap_77 ?_
                  have hQ : ¬ (0 ≤ (i : Int) ∧ (i : Int) < S 0 0 0 ∧ 0 ≤ (k : Int) ∧ (k : Int) < S 0 0 0 ∧ 0 ≤ (h : Int) ∧ (h : Int) < S 1 0 0 ∧ (i : Int) ≠ (k : Int) ∧ S 14 (i : Int).toNat 0 = 1 ∧ S 14 (k : Int).toNat 0 = 1 ∧ 1 ≤ x ∧ x ≤ 1000 ∧ 1 ≤ y ∧ y ≤ 1000 ∧ 1 ≤ g ∧ g ≤ 1000000000) := by (try simp only [cs_nn]); omega
                  exact cx_iretM X B hsz hr hlk (Nat.le_of_ble_eq_true rfl) (Nat.le_of_ble_eq_true rfl) (by rw [cs_swQ, if_neg hQ]) (by rw [op_sw, if_neg (fun q => hQ q.1)]) dc_C_swap_78
        · refine cx_iconst X dc_C_swap_38 ?_
          have hQ : ¬ (0 ≤ (i : Int) ∧ (i : Int) < S 0 0 0 ∧ 0 ≤ (k : Int) ∧ (k : Int) < S 0 0 0 ∧ 0 ≤ (h : Int) ∧ (h : Int) < S 1 0 0 ∧ (i : Int) ≠ (k : Int) ∧ S 14 (i : Int).toNat 0 = 1 ∧ S 14 (k : Int).toNat 0 = 1 ∧ 1 ≤ x ∧ x ≤ 1000 ∧ 1 ≤ y ∧ y ≤ 1000 ∧ 1 ≤ g ∧ g ≤ 1000000000) := by (try simp only [cs_nn]); omega
          exact cx_iretM X B hsz hr hlk (Nat.le_of_ble_eq_true rfl) (Nat.le_of_ble_eq_true rfl) (by rw [cs_swQ, if_neg hQ]) (by rw [op_sw, if_neg (fun q => hQ q.1)]) dc_C_swap_39
    · refine cx_cVN (As := [.int (jI (b))]) (rest := []) X B kc_C_findStock gm_C_62 (c_C_findStock_0 l u ad S sc hI b (by omega) (by omega) hs_2) (fun _ _ _ h => h) (wC_0 u ad S sc) rfl rfl ⟨(Nat.le_of_ble_eq_true rfl), (Nat.le_of_ble_eq_true rfl)⟩ ⟨(Nat.le_of_ble_eq_true rfl), (Nat.le_of_ble_eq_true rfl)⟩ rfl hl.1 (Nat.le_of_ble_eq_true rfl) dc_C_swap_9 rfl ?_
      refine lv_astoreN (lv' := [(9, .null), (8, .ref (ad 14 i)), (0, .ref (ad 0 0)), (1, .int (jI ((i : Int)))), (2, .int (jI (b))), (3, .int (jI (x))), (4, .int (jI (y))), (5, .int (jI (d))), (6, .long (jL (g)))]) X.1 X.2.1 dc_C_swap_12 hl (by decide) rfl (fun ls hl => ?_)
      refine lv_aload X.1 X.2.1 dc_C_swap_14 (lv_at hl 1 rfl) ?_
      refine lv_ifnull X.1 X.2.1 dc_C_swap_16 ?_
      refine lv_aloadN X.1 X.2.1 dc_C_swap_19 (lv_at hl 0 rfl) ?_
      refine lv_ifnullN (tgt := 38) X.1 X.2.1 dc_C_swap_21 (by decide) ?_
      refine cx_iconst X dc_C_swap_38 ?_
      have hQ : ¬ (0 ≤ (i : Int) ∧ (i : Int) < S 0 0 0 ∧ 0 ≤ b ∧ b < S 0 0 0 ∧ 0 ≤ d ∧ d < S 1 0 0 ∧ (i : Int) ≠ b ∧ S 14 (i : Int).toNat 0 = 1 ∧ S 14 b.toNat 0 = 1 ∧ 1 ≤ x ∧ x ≤ 1000 ∧ 1 ≤ y ∧ y ≤ 1000 ∧ 1 ≤ g ∧ g ≤ 1000000000) := by (try simp only [cs_nn]); omega
      exact cx_iretM X B hsz hr hlk (Nat.le_of_ble_eq_true rfl) (Nat.le_of_ble_eq_true rfl) (by rw [cs_swQ, if_neg hQ]) (by rw [op_sw, if_neg (fun q => hQ q.1)]) dc_C_swap_39
  · refine cx_cVN (As := [.int (jI (a))]) (rest := []) X B kc_C_findStock gm_C_62 (c_C_findStock_0 l u ad S sc hI a (by omega) (by omega) hs_1) (fun _ _ _ h => h) (wC_0 u ad S sc) rfl rfl ⟨(Nat.le_of_ble_eq_true rfl), (Nat.le_of_ble_eq_true rfl)⟩ ⟨(Nat.le_of_ble_eq_true rfl), (Nat.le_of_ble_eq_true rfl)⟩ rfl hl.1 (Nat.le_of_ble_eq_true rfl) dc_C_swap_2 rfl ?_
    refine lv_astoreN (lv' := [(8, .null), (0, .ref (ad 0 0)), (1, .int (jI (a))), (2, .int (jI (b))), (3, .int (jI (x))), (4, .int (jI (y))), (5, .int (jI (d))), (6, .long (jL (g)))]) X.1 X.2.1 dc_C_swap_5 hl (by decide) rfl (fun ls hl => ?_)
    refine lv_aload_n X.1 X.2.1 dc_C_swap_7 rfl (lv_at hl 1 rfl) ?_
    refine lv_iload_n X.1 X.2.1 dc_C_swap_8 rfl (lv_at hl 3 rfl) ?_
    by_cases hs_16 : 0 ≤ b ∧ b < S 0 0 0
    · obtain ⟨k, rfl⟩ : ∃ k : Nat, b = (k : Int) := ⟨b.toNat, by omega⟩
      have hk : (k : Int) < S 0 0 0 := hs_16.2
      refine cx_cVN (As := [.int (jI (k : Int))]) (rest := []) X B kc_C_findStock gm_C_62 (c_C_findStock l u ad S sc hI k hk) (fun _ _ _ h => h) (wC_0 u ad S sc) rfl rfl ⟨(Nat.le_of_ble_eq_true rfl), (Nat.le_of_ble_eq_true rfl)⟩ ⟨(Nat.le_of_ble_eq_true rfl), (Nat.le_of_ble_eq_true rfl)⟩ rfl hl.1 (Nat.le_of_ble_eq_true rfl) dc_C_swap_9 rfl ?_
      refine lv_astore (lv' := [(9, .ref (ad 14 k)), (8, .null), (0, .ref (ad 0 0)), (1, .int (jI (a))), (2, .int (jI ((k : Int)))), (3, .int (jI (x))), (4, .int (jI (y))), (5, .int (jI (d))), (6, .long (jL (g)))]) X.1 X.2.1 dc_C_swap_12 hl (by decide) rfl (fun ls hl => ?_)
      refine lv_aloadN X.1 X.2.1 dc_C_swap_14 (lv_at hl 1 rfl) ?_
      refine lv_ifnullN (tgt := 38) X.1 X.2.1 dc_C_swap_16 (by decide) ?_
      refine cx_iconst X dc_C_swap_38 ?_
      have hQ : ¬ (0 ≤ a ∧ a < S 0 0 0 ∧ 0 ≤ (k : Int) ∧ (k : Int) < S 0 0 0 ∧ 0 ≤ d ∧ d < S 1 0 0 ∧ a ≠ (k : Int) ∧ S 14 a.toNat 0 = 1 ∧ S 14 (k : Int).toNat 0 = 1 ∧ 1 ≤ x ∧ x ≤ 1000 ∧ 1 ≤ y ∧ y ≤ 1000 ∧ 1 ≤ g ∧ g ≤ 1000000000) := by (try simp only [cs_nn]); omega
      exact cx_iretM X B hsz hr hlk (Nat.le_of_ble_eq_true rfl) (Nat.le_of_ble_eq_true rfl) (by rw [cs_swQ, if_neg hQ]) (by rw [op_sw, if_neg (fun q => hQ q.1)]) dc_C_swap_39
    · refine cx_cVN (As := [.int (jI (b))]) (rest := []) X B kc_C_findStock gm_C_62 (c_C_findStock_0 l u ad S sc hI b (by omega) (by omega) hs_16) (fun _ _ _ h => h) (wC_0 u ad S sc) rfl rfl ⟨(Nat.le_of_ble_eq_true rfl), (Nat.le_of_ble_eq_true rfl)⟩ ⟨(Nat.le_of_ble_eq_true rfl), (Nat.le_of_ble_eq_true rfl)⟩ rfl hl.1 (Nat.le_of_ble_eq_true rfl) dc_C_swap_9 rfl ?_
      refine lv_astoreN (lv' := [(9, .null), (8, .null), (0, .ref (ad 0 0)), (1, .int (jI (a))), (2, .int (jI (b))), (3, .int (jI (x))), (4, .int (jI (y))), (5, .int (jI (d))), (6, .long (jL (g)))]) X.1 X.2.1 dc_C_swap_12 hl (by decide) rfl (fun ls hl => ?_)
      refine lv_aloadN X.1 X.2.1 dc_C_swap_14 (lv_at hl 1 rfl) ?_
      refine lv_ifnullN (tgt := 38) X.1 X.2.1 dc_C_swap_16 (by decide) ?_
      refine cx_iconst X dc_C_swap_38 ?_
      have hQ : ¬ (0 ≤ a ∧ a < S 0 0 0 ∧ 0 ≤ b ∧ b < S 0 0 0 ∧ 0 ≤ d ∧ d < S 1 0 0 ∧ a ≠ b ∧ S 14 a.toNat 0 = 1 ∧ S 14 b.toNat 0 = 1 ∧ 1 ≤ x ∧ x ≤ 1000 ∧ 1 ≤ y ∧ y ≤ 1000 ∧ 1 ≤ g ∧ g ≤ 1000000000) := by (try simp only [cs_nn]); omega
      exact cx_iretM X B hsz hr hlk (Nat.le_of_ble_eq_true rfl) (Nat.le_of_ble_eq_true rfl) (by rw [cs_swQ, if_neg hQ]) (by rw [op_sw, if_neg (fun q => hQ q.1)]) dc_C_swap_39
