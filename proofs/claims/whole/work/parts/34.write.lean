set_option maxHeartbeats 4000000 in
set_option maxRecDepth 100000 in
theorem c_C_told (l : Launch) (u : cx_U) (ad : Nat → Nat → Nat) (S : cs_S) (sc : Nat → Nat → Int) (hI : cs_I S) (a b : Int) (a1 : -2147483648 ≤ a) (a2 : a ≤ 2147483647) (b1 : -2147483648 ≤ b) (b2 : b ≤ 2147483647) : cx_N l u mn_C_told bc_C_told 4 (some .long) 2 43 [.ref (ad 0 0), .int (jI (a)), .int (jI (b))] (wC u ad S sc) (.long (jL (cs_toldQ S a b))) := by
  refine cx_N.of (by decide +kernel) (Nat.le_of_ble_eq_true rfl) ?_
  intro p e s m args below meth c ls A X hr hlk B hl
  have X : CallFix p m c bc_C_told 4 s args GW "CatchShares" := X
  have hl : lv_has ls 4 [(0, .ref (ad 0 0)), (1, .int (jI (a))), (2, .int (jI (b)))] := hl
  have hI1 := hI.1
  have hI5 := hI.2.2.2.2.1
  refine lv_aload_n X.1 X.2.1 dc_C_told_0 rfl (lv_at hl 0 rfl) ?_
  refine lv_iload_n X.1 X.2.1 dc_C_told_1 rfl (lv_at hl 1 rfl) ?_
  by_cases hs_1 : 0 ≤ a ∧ a < S 0 0 0
  · obtain ⟨i, rfl⟩ : ∃ i : Nat, a = (i : Int) := ⟨a.toNat, by omega⟩
    have hi : (i : Int) < S 0 0 0 := hs_1.2
    refine cx_cVN (As := [.int (jI (i : Int))]) (rest := []) X B kc_C_findStock gm_C_62 (c_C_findStock l u ad S sc hI i hi) (fun _ _ _ h => h) (wC_0 u ad S sc) rfl rfl ⟨(Nat.le_of_ble_eq_true rfl), (Nat.le_of_ble_eq_true rfl)⟩ ⟨(Nat.le_of_ble_eq_true rfl), (Nat.le_of_ble_eq_true rfl)⟩ rfl hl.1 (Nat.le_of_ble_eq_true rfl) dc_C_told_2 rfl ?_
    refine lv_astore_n (lv' := [(3, .ref (ad 14 i)), (0, .ref (ad 0 0)), (1, .int (jI ((i : Int)))), (2, .int (jI (b)))]) X.1 X.2.1 dc_C_told_5 rfl hl (by decide) rfl (fun ls hl => ?_)
    refine lv_aload_n X.1 X.2.1 dc_C_told_6 rfl (lv_at hl 0 rfl) ?_
    refine lv_ifnonnull (tgt := 14) X.1 X.2.1 dc_C_told_7 (by decide) ?_
    refine lv_iload_n X.1 X.2.1 dc_C_told_14 rfl (lv_at hl 3 rfl) ?_
    rcases (show b = 0 ∨ b = 1 ∨ b = 2 ∨ b = 3 ∨ b = 4 ∨ b = 5 ∨ b = 6 ∨ (b < 0 ∨ 6 < b) by omega) with rfl | rfl | rfl | rfl | rfl | rfl | rfl | hb
    · refine lv_tableIn (off := 41) (tgt := 56) X.1 X.2.1 dc_C_told_15 (by decide +kernel) (by decide +kernel) (by decide +kernel) (by decide) ?_
      refine lv_aload_n X.1 X.2.1 dc_C_told_56 rfl (lv_at hl 0 rfl) ?_
      refine cx_get (v := .long (jL (S 12 i 0))) X B (wC_14 u ad S sc hi) rfl uw_S 1 (by decide) gf_C_79 rfl dc_C_told_57 ?_
      exact cx_lretN X hr hlk (by rw [cs_toldQ, if_pos (by omega), if_pos rfl] <;> (rfl)) dc_C_told_60
    · refine lv_tableIn (off := 46) (tgt := 61) X.1 X.2.1 dc_C_told_15 (by decide +kernel) (by decide +kernel) (by decide +kernel) (by decide) ?_
      refine lv_aload_n X.1 X.2.1 dc_C_told_61 rfl (lv_at hl 0 rfl) ?_
      refine cx_get (v := .long (jL (S 13 i 0))) X B (wC_14 u ad S sc hi) rfl uw_S 4 (by decide) gf_C_83 rfl dc_C_told_62 ?_
      exact cx_lretN X hr hlk (by rw [cs_toldQ, if_pos (by omega), if_neg (by omega), if_pos rfl] <;> (rfl)) dc_C_told_65
    · refine lv_tableIn (off := 51) (tgt := 66) X.1 X.2.1 dc_C_told_15 (by decide +kernel) (by decide +kernel) (by decide +kernel) (by decide) ?_
      refine lv_aload_n X.1 X.2.1 dc_C_told_66 rfl (lv_at hl 0 rfl) ?_
      refine cx_get (v := .int (jI (S 14 i 0))) X B (wC_14 u ad S sc hi) rfl uw_S 5 (by decide) gf_C_69 rfl dc_C_told_67 ?_
      have r_2 := hI5 i
      refine cx_if_eq (tgt := 77) X (by omega) (by omega) dc_C_told_70 (by decide) (fun c_3 => ?_) (fun c_3 => ?_)
      · refine cx_lconst (a := 0) X dc_C_told_77 (by decide +kernel) ?_
        exact cx_lretN X hr hlk (by rw [cs_toldQ, if_pos (by omega), if_neg (by omega), if_neg (by omega), if_pos rfl] <;> (rw [cs_nn]; congr 2; omega)) dc_C_told_78
      · refine cx_lconst (a := 1) X dc_C_told_73 (by decide +kernel) ?_
        refine lv_goto (tgt := 78) X.1 X.2.1 dc_C_told_74 (by decide) ?_
        exact cx_lretN X hr hlk (by rw [cs_toldQ, if_pos (by omega), if_neg (by omega), if_neg (by omega), if_pos rfl] <;> (rw [cs_nn]; congr 2; omega)) dc_C_told_78
    · refine lv_tableIn (off := 64) (tgt := 79) X.1 X.2.1 dc_C_told_15 (by decide +kernel) (by decide +kernel) (by decide +kernel) (by decide) ?_
      refine lv_aload_n X.1 X.2.1 dc_C_told_79 rfl (lv_at hl 0 rfl) ?_
      refine cx_cVN (r := .long (jL (cs_sum (S 21 i) 12))) (As := []) (rest := []) X B kc_S_allShares gm_C_124 (c_S_allShares l u ad S sc hI i hi) (fun _ _ _ h => h) (wC_14 u ad S sc hi) rfl rfl ⟨(Nat.le_of_ble_eq_true rfl), (Nat.le_of_ble_eq_true rfl)⟩ ⟨(Nat.le_of_ble_eq_true rfl), (Nat.le_of_ble_eq_true rfl)⟩ rfl hl.1 (Nat.le_of_ble_eq_true rfl) dc_C_told_80 rfl ?_
      exact cx_lretN X hr hlk (by rw [cs_toldQ, if_pos (by omega), if_neg (by omega), if_neg (by omega), if_neg (by omega), if_pos rfl] <;> (rfl)) dc_C_told_83
    · refine lv_tableIn (off := 69) (tgt := 84) X.1 X.2.1 dc_C_told_15 (by decide +kernel) (by decide +kernel) (by decide +kernel) (by decide) ?_
      refine lv_aload_n X.1 X.2.1 dc_C_told_84 rfl (lv_at hl 1 rfl) ?_
      refine cx_get (v := .ref (ad 4 0)) X B (wC_0 u ad S sc) rfl uw_C 5 (by decide) gf_C_25 rfl dc_C_told_85 ?_
      refine lv_iload_n X.1 X.2.1 dc_C_told_88 rfl (lv_at hl 2 rfl) ?_
      refine cx_cVN (r := .long (jL (cs_land S (i : Int) (S 2 0 0).toNat))) (As := [.int (jI ((i : Int)))]) (rest := []) X B kc_L_ofStock gm_C_185 (c_L_ofStock l u ad S sc hI (i : Int) (by omega) (by omega)) (fun _ _ _ h => h) (wC_4 u ad S sc) rfl rfl ⟨(Nat.le_of_ble_eq_true rfl), (Nat.le_of_ble_eq_true rfl)⟩ ⟨(Nat.le_of_ble_eq_true rfl), (Nat.le_of_ble_eq_true rfl)⟩ rfl hl.1 (Nat.le_of_ble_eq_true rfl) dc_C_told_89 rfl ?_
      exact cx_lretN X hr hlk (by rw [cs_toldQ, if_pos (by omega), if_neg (by omega), if_neg (by omega), if_neg (by omega), if_neg (by omega), if_pos rfl] <;> (rfl)) dc_C_told_92
    · refine lv_tableIn (off := 78) (tgt := 93) X.1 X.2.1 dc_C_told_15 (by decide +kernel) (by decide +kernel) (by decide +kernel) (by decide) ?_
      refine lv_aload_n X.1 X.2.1 dc_C_told_93 rfl (lv_at hl 0 rfl) ?_
      refine cx_get (v := .int (jI (S 16 i 0))) X B (wC_14 u ad S sc hi) rfl uw_S 7 (by decide) gf_C_152 rfl dc_C_told_94 ?_
      have r_4 := hI5 i
      refine cx_i2l X (by omega) (by omega) dc_C_told_97 ?_
      exact cx_lretN X hr hlk (by rw [cs_toldQ, if_pos (by omega), if_neg (by omega), if_neg (by omega), if_neg (by omega), if_neg (by omega), if_neg (by omega), if_pos rfl] <;> (rfl)) dc_C_told_98
    · refine lv_tableIn (off := 84) (tgt := 99) X.1 X.2.1 dc_C_told_15 (by decide +kernel) (by decide +kernel) (by decide +kernel) (by decide) ?_
      refine lv_aload_n X.1 X.2.1 dc_C_told_99 rfl (lv_at hl 0 rfl) ?_
      refine cx_get (v := .int (jI (S 15 i 0))) X B (wC_14 u ad S sc hi) rfl uw_S 6 (by decide) gf_C_86 rfl dc_C_told_100 ?_
      have r_5 := hI5 i
      refine cx_i2l X (by omega) (by omega) dc_C_told_103 ?_
      exact cx_lretN X hr hlk (by rw [cs_toldQ, if_pos (by omega), if_neg (by omega), if_neg (by omega), if_neg (by omega), if_neg (by omega), if_neg (by omega), if_neg (by omega), if_pos rfl] <;> (rfl)) dc_C_told_104
    · refine lv_tableOut (tgt := 105) X.1 X.2.1 dc_C_told_15 (by rw [jI_T (by omega) (by omega)]; exact hb) (by decide) ?_
      refine cx_ldc2 (a := -1) X gk_C_101 (by decide +kernel) dc_C_told_105 ?_
      exact cx_lretN X hr hlk (by rw [cs_toldQ, if_pos (by omega), if_neg (by omega), if_neg (by omega), if_neg (by omega), if_neg (by omega), if_neg (by omega), if_neg (by omega), if_neg (by omega)]) dc_C_told_108
  · refine cx_cVN (As := [.int (jI (a))]) (rest := []) X B kc_C_findStock gm_C_62 (c_C_findStock_0 l u ad S sc hI a (by omega) (by omega) hs_1) (fun _ _ _ h => h) (wC_0 u ad S sc) rfl rfl ⟨(Nat.le_of_ble_eq_true rfl), (Nat.le_of_ble_eq_true rfl)⟩ ⟨(Nat.le_of_ble_eq_true rfl), (Nat.le_of_ble_eq_true rfl)⟩ rfl hl.1 (Nat.le_of_ble_eq_true rfl) dc_C_told_2 rfl ?_
    refine lv_astore_nN (lv' := [(3, .null), (0, .ref (ad 0 0)), (1, .int (jI (a))), (2, .int (jI (b)))]) X.1 X.2.1 dc_C_told_5 rfl hl (by decide) rfl (fun ls hl => ?_)
    refine lv_aload_nN X.1 X.2.1 dc_C_told_6 rfl (lv_at hl 0 rfl) ?_
    refine lv_ifnonnullN X.1 X.2.1 dc_C_told_7 ?_
    refine cx_ldc2 (a := -1) X gk_C_101 (by decide +kernel) dc_C_told_10 ?_
    exact cx_lretN X hr hlk (by rw [cs_toldQ, if_neg (by omega)]) dc_C_told_13
def op_pen (S : cs_S) (a b : Int) : cs_S := if 1 ≤ a ∧ a ≤ 1000 ∧ 1 ≤ b ∧ b ≤ 1000 then cs_u (cs_u S 3 0 0 a) 4 0 0 b else S
def op_into (S : cs_S) (a b : Int) : cs_S := if 0 ≤ a ∧ a < S 1 0 0 ∧ -1 ≤ b ∧ b ≤ 3 then cs_u S 6 a.toNat 0 b else S
def op_cap (S : cs_S) (a b : Int) : cs_S := if 0 ≤ a ∧ a < S 0 0 0 ∧ 0 ≤ b ∧ b ≤ 100 then cs_u S 16 a.toNat 0 b else S
def op_weight (S : cs_S) (a b x : Int) : cs_S := if 0 ≤ a ∧ a < S 0 0 0 ∧ 0 ≤ b ∧ b < S 1 0 0 ∧ S 14 a.toNat 0 = 0 ∧ 0 ≤ x ∧ x ≤ 1000000 then cs_u S 20 a.toNat b.toNat x else S
def op_aside (S : cs_S) (a x : Int) : cs_S := if 0 ≤ a ∧ a < S 0 0 0 ∧ S 14 a.toNat 0 = 0 ∧ 0 ≤ x ∧ x ≤ S 12 a.toNat 0 then cs_u S 13 a.toNat 0 x else S
def op_follows (S : cs_S) (a b : Int) : cs_S := if 0 ≤ a ∧ a < S 0 0 0 ∧ 0 ≤ b ∧ b < S 0 0 0 ∧ S 14 a.toNat 0 = 0 ∧ S 14 b.toNat 0 = 1 ∧ S 15 a.toNat 0 = -1 then cs_u S 15 a.toNat 0 b else S
def op_seen (S : cs_S) (a x y : Int) : cs_S := if 0 ≤ a ∧ a < S 0 0 0 ∧ 0 ≤ x ∧ x ≤ 1000000 ∧ 0 ≤ y ∧ y ≤ 1000000 ∧ S 17 a.toNat 0 + x ≤ 1000000 ∧ S 18 a.toNat 0 + y ≤ 1000000 then cs_u (cs_u S 17 a.toNat 0 (S 17 a.toNat 0 + x)) 18 a.toNat 0 (S 18 a.toNat 0 + y) else S
def op_holder (S : cs_S) (a : Int) : cs_S := if S 1 0 0 < 12 ∧ 0 ≤ a ∧ a < 10 then cs_u (cs_u (cs_u S 5 (S 1 0 0).toNat 0 a) 6 (S 1 0 0).toNat 0 (-1)) 1 0 0 (S 1 0 0 + 1) else S
def cs_holderQ (S : cs_S) (a : Int) : Int := if S 1 0 0 < 12 ∧ 0 ≤ a ∧ a < 10 then S 1 0 0 else -1
theorem va_upE (f : Nat → Int) (k : Nat) (v : Int) (x : Nat) : va_up f k v x = if x = k then v else f x := rfl
set_option maxHeartbeats 4000000 in
set_option maxRecDepth 100000 in
theorem c_C_penalty (l : Launch) (u : cx_U) (sz : Nat) (ad : Nat → Nat → Nat) (S : cs_S) (sc : Nat → Nat → Int) (hI : cs_I S) (a b : Int) (a1 : -2147483648 ≤ a) (a2 : a ≤ 2147483647) (b1 : -2147483648 ≤ b) (b2 : b ≤ 2147483647) : cx_M l u mn_C_penalty bc_C_penalty 3 (some .boolean) 2 46 [.ref (ad 0 0), .int (jI (a)), .int (jI (b))] (wC u ad S sc) sz (some (.int (jI (jB (1 ≤ a ∧ a ≤ 1000 ∧ 1 ≤ b ∧ b ≤ 1000))))) (fun w' => w' = wC u ad (op_pen S a b) sc) 0 0 := by
  refine cx_M.of (by decide +kernel) (Nat.le_of_ble_eq_true rfl) ?_
  intro p e s m args below meth c ls hsz X hr hlk hin B hl
  have X : CallFix p m c bc_C_penalty 3 s args GW "CatchShares" := X
  have hl : lv_has ls 3 [(0, .ref (ad 0 0)), (1, .int (jI (a))), (2, .int (jI (b)))] := hl
  have hI1 := hI.1
  refine lv_iload_n X.1 X.2.1 dc_C_penalty_0 rfl (lv_at hl 1 rfl) ?_
  refine lv_iload_n X.1 X.2.1 dc_C_penalty_1 rfl (lv_at hl 2 rfl) ?_
  refine cx_cSN (r := .int (jI (jB (1 ≤ a ∧ a ≤ 1000 ∧ 1 ≤ b ∧ b ≤ 1000)))) (As := [.int (jI (a)), .int (jI (b))]) (rest := []) X B kc_C_isFraction gm_C_120 (c_C_isFraction l u _ a b (by omega) (by omega) (by omega) (by omega)) (fun _ _ _ h => h) ⟨(Nat.le_of_ble_eq_true rfl), (Nat.le_of_ble_eq_true rfl)⟩ ⟨(Nat.le_of_ble_eq_true rfl), (Nat.le_of_ble_eq_true rfl)⟩ rfl hl.1 (Nat.le_of_ble_eq_true rfl) dc_C_penalty_2 rfl ?_
  refine cx_ifneB (tgt := 10) X dc_C_penalty_5 (by decide) (fun c_1 => ?_) (fun c_1 => ?_)
  · refine lv_aload_n X.1 X.2.1 dc_C_penalty_10 rfl (lv_at hl 0 rfl) ?_
    refine lv_iload_n X.1 X.2.1 dc_C_penalty_11 rfl (lv_at hl 1 rfl) ?_
    refine cx_put (v := .int (jI (a))) X B (wC_0 u ad S sc) rfl uw_C ft_C fo_C fn_C 7 (by decide) gf_C_36 rfl (fo_C 7 (by decide)) rfl rfl (Nat.le_of_ble_eq_true rfl) dc_C_penalty_12 (fun H locs B => ?_)
    have B : cx_B u (cx_A (wC u ad S sc) sz) (cx_up (wC u ad S sc) 0 0 (ad 0 0, .inr (3, [.ref (ad 1 0), .int (jI (S 0 0 0)), .ref (ad 2 0), .ref (ad 3 0), .int (jI (S 1 0 0)), .ref (ad 4 0), .ref (ad 9 0), .int (jI (a)), .int (jI (S 4 0 0))]))) s H locs := B
    refine lv_aload_n X.1 X.2.1 dc_C_penalty_15 rfl (lv_at hl 0 rfl) ?_
    refine lv_iload_n X.1 X.2.1 dc_C_penalty_16 rfl (lv_at hl 2 rfl) ?_
    refine cx_put (v := .int (jI (b))) X B (cx_up_s _ _ _ _) rfl uw_C ft_C fo_C fn_C 8 (by decide) gf_C_40 rfl (fo_C 8 (by decide)) rfl rfl (Nat.le_of_ble_eq_true rfl) dc_C_penalty_17 (fun H locs B => ?_)
    have B : cx_B u (cx_A (wC u ad S sc) sz) (cx_up (cx_up (wC u ad S sc) 0 0 (ad 0 0, .inr (3, [.ref (ad 1 0), .int (jI (S 0 0 0)), .ref (ad 2 0), .ref (ad 3 0), .int (jI (S 1 0 0)), .ref (ad 4 0), .ref (ad 9 0), .int (jI (a)), .int (jI (S 4 0 0))]))) 0 0 (ad 0 0, .inr (3, [.ref (ad 1 0), .int (jI (S 0 0 0)), .ref (ad 2 0), .ref (ad 3 0), .int (jI (S 1 0 0)), .ref (ad 4 0), .ref (ad 9 0), .int (jI (a)), .int (jI (b))]))) s H locs := B
    refine cx_iconst X dc_C_penalty_20 ?_
    have hQ : 1 ≤ a ∧ a ≤ 1000 ∧ 1 ≤ b ∧ b ≤ 1000 := by (try simp only [cs_nn]); omega
    have hG : cx_up (cx_up (wC u ad S sc) 0 0 (ad 0 0, .inr (3, [.ref (ad 1 0), .int (jI (S 0 0 0)), .ref (ad 2 0), .ref (ad 3 0), .int (jI (S 1 0 0)), .ref (ad 4 0), .ref (ad 9 0), .int (jI (a)), .int (jI (S 4 0 0))]))) 0 0 (ad 0 0, .inr (3, [.ref (ad 1 0), .int (jI (S 0 0 0)), .ref (ad 2 0), .ref (ad 3 0), .int (jI (S 1 0 0)), .ref (ad 4 0), .ref (ad 9 0), .int (jI (a)), .int (jI (b))])) = wC u ad (op_pen S a b) sc := by
      rw [op_pen, if_pos hQ]
      funext k j
      match k with
      | 0 => by_cases hz : j = 0 <;> simp [cx_up, wC, cs_u, hz]
      | 1 => by_cases hz : j = 0 <;> simp [cx_up, wC, cs_u, hz]
      | 2 => by_cases hz : j = 0 <;> simp [cx_up, wC, cs_u, hz]
      | 3 => by_cases hz : j = 0 <;> simp [cx_up, wC, cs_u, hz]
      | 4 => by_cases hz : j = 0 <;> simp [cx_up, wC, cs_u, hz]
      | 5 => by_cases hz : j = 0 <;> simp [cx_up, wC, cs_u, hz]
      | 6 => by_cases hz : j = 0 <;> simp [cx_up, wC, cs_u, hz]
      | 7 => by_cases hz : j = 0 <;> simp [cx_up, wC, cs_u, hz]
      | 8 => by_cases hz : j = 0 <;> simp [cx_up, wC, cs_u, hz]
      | 9 => by_cases hz : j = 0 <;> simp [cx_up, wC, cs_u, hz]
      | 10 => by_cases hz : j = 0 <;> simp [cx_up, wC, cs_u, hz]
      | 11 => by_cases hz : j = 0 <;> simp [cx_up, wC, cs_u, hz]
      | 12 => by_cases hz : j = 0 <;> simp [cx_up, wC, cs_u, hz]
      | 13 => by_cases hz : j = 0 <;> simp [cx_up, wC, cs_u, hz]
      | 14 => simp [cx_up, wC, cs_u]
      | 15 => simp [cx_up, wC, cs_u]
      | 16 => simp [cx_up, wC, cs_u]
      | k + 17 => simp [cx_up, wC]
    exact cx_zretM X B hsz hr hlk (Nat.le_of_ble_eq_true rfl) (Nat.le_of_ble_eq_true rfl) (by omega) (by omega) (by rw [jB_t hQ]) (hG) dc_C_penalty_21
  · refine cx_iconst X dc_C_penalty_8 ?_
    have hQ : ¬ (1 ≤ a ∧ a ≤ 1000 ∧ 1 ≤ b ∧ b ≤ 1000) := by (try simp only [cs_nn]); omega
    exact cx_zretM X B hsz hr hlk (Nat.le_of_ble_eq_true rfl) (Nat.le_of_ble_eq_true rfl) (by omega) (by omega) (by rw [jB_f hQ]) (by rw [op_pen, if_neg hQ]) dc_C_penalty_9
set_option maxHeartbeats 4000000 in
set_option maxRecDepth 100000 in
theorem c_C_into (l : Launch) (u : cx_U) (sz : Nat) (ad : Nat → Nat → Nat) (S : cs_S) (sc : Nat → Nat → Int) (hI : cs_I S) (a b : Int) (a1 : -2147483648 ≤ a) (a2 : a ≤ 2147483647) (b1 : -2147483648 ≤ b) (b2 : b ≤ 2147483647) : cx_M l u mn_C_into bc_C_into 3 (some .boolean) 1 21 [.ref (ad 0 0), .int (jI (a)), .int (jI (b))] (wC u ad S sc) sz (some (.int (jI (jB (0 ≤ a ∧ a < S 1 0 0 ∧ -1 ≤ b ∧ b ≤ 3))))) (fun w' => w' = wC u ad (op_into S a b) sc) 0 0 := by
  refine cx_M.of (by decide +kernel) (Nat.le_of_ble_eq_true rfl) ?_
  intro p e s m args below meth c ls hsz X hr hlk hin B hl
  have X : CallFix p m c bc_C_into 3 s args GW "CatchShares" := X
  have hl : lv_has ls 3 [(0, .ref (ad 0 0)), (1, .int (jI (a))), (2, .int (jI (b)))] := hl
  have hI1 := hI.1
  refine lv_aload_n X.1 X.2.1 dc_C_into_0 rfl (lv_at hl 0 rfl) ?_
  refine lv_iload_n X.1 X.2.1 dc_C_into_1 rfl (lv_at hl 1 rfl) ?_
  refine cx_cVN (r := .int (jI (jB (0 ≤ a ∧ a < S 1 0 0)))) (As := [.int (jI (a))]) (rest := []) X B kc_C_isHolder gm_C_66 (c_C_isHolder l u ad S sc hI a (by omega) (by omega)) (fun _ _ _ h => h) (wC_0 u ad S sc) rfl rfl ⟨(Nat.le_of_ble_eq_true rfl), (Nat.le_of_ble_eq_true rfl)⟩ ⟨(Nat.le_of_ble_eq_true rfl), (Nat.le_of_ble_eq_true rfl)⟩ rfl hl.1 (Nat.le_of_ble_eq_true rfl) dc_C_into_2 rfl ?_
  refine cx_ifeqB (tgt := 20) X dc_C_into_5 (by decide) (fun c_1 => ?_) (fun c_1 => ?_)
  · refine cx_iconst X dc_C_into_20 ?_
    have hQ : ¬ (0 ≤ a ∧ a < S 1 0 0 ∧ -1 ≤ b ∧ b ≤ 3) := by (try simp only [cs_nn]); omega
    exact cx_zretM X B hsz hr hlk (Nat.le_of_ble_eq_true rfl) (Nat.le_of_ble_eq_true rfl) (by omega) (by omega) (by rw [jB_f hQ]) (by rw [op_into, if_neg hQ]) dc_C_into_21
  · obtain ⟨h, rfl⟩ : ∃ h : Nat, a = (h : Int) := ⟨a.toNat, by omega⟩
    refine lv_iload_n X.1 X.2.1 dc_C_into_8 rfl (lv_at hl 2 rfl) ?_
    refine cx_iconst X dc_C_into_9 ?_
    refine cx_icmp_eq (tgt := 22) X (by omega) (by omega) (by omega) (by omega) dc_C_into_10 (by decide) (fun c_2 => ?_) (fun c_2 => ?_)
    · refine lv_aload_n X.1 X.2.1 dc_C_into_22 rfl (lv_at hl 0 rfl) ?_
      refine cx_get (v := .ref (ad 3 0)) X B (wC_0 u ad S sc) rfl uw_C 3 (by decide) gf_C_19 rfl dc_C_into_23 ?_
      refine lv_iload_n X.1 X.2.1 dc_C_into_26 rfl (lv_at hl 1 rfl) ?_
      refine lv_iload_n X.1 X.2.1 dc_C_into_27 rfl (lv_at hl 2 rfl) ?_
      refine cx_iast X B (wC_3 u ad S sc) (h) (by omega) (by omega) (by decide) dc_C_into_28 (fun H locs B => ?_)
      have B : cx_B u (cx_A (wC u ad S sc) sz) (cx_up (wC u ad S sc) 3 0 (ad 3 0, .inl (u.2 0, 12, .inl (fun z_ => jI (va_up (fun z_ => S 6 z_ 0) h b z_))))) s H locs := B
      refine cx_iconst X dc_C_into_29 ?_
      have hQ : 0 ≤ (h : Int) ∧ (h : Int) < S 1 0 0 ∧ -1 ≤ b ∧ b ≤ 3 := by (try simp only [cs_nn]); omega
      have hG : cx_up (wC u ad S sc) 3 0 (ad 3 0, .inl (u.2 0, 12, .inl (fun z_ => jI (va_up (fun z_ => S 6 z_ 0) h b z_)))) = wC u ad (op_into S (h : Int) b) sc := by
        rw [op_into, if_pos hQ]
        funext k j
        match k with
        | 0 => by_cases hz : j = 0 <;> simp [cx_up, wC, cs_u, hz, va_upE, Int.toNat_natCast]
        | 1 => by_cases hz : j = 0 <;> simp [cx_up, wC, cs_u, hz, va_upE, Int.toNat_natCast]
        | 2 => by_cases hz : j = 0 <;> simp [cx_up, wC, cs_u, hz, va_upE, Int.toNat_natCast]
        | 3 => by_cases hz : j = 0 <;> simp [cx_up, wC, cs_u, hz, va_upE, Int.toNat_natCast]
        | 4 => by_cases hz : j = 0 <;> simp [cx_up, wC, cs_u, hz, va_upE, Int.toNat_natCast]
        | 5 => by_cases hz : j = 0 <;> simp [cx_up, wC, cs_u, hz, va_upE, Int.toNat_natCast]
        | 6 => by_cases hz : j = 0 <;> simp [cx_up, wC, cs_u, hz, va_upE, Int.toNat_natCast]
        | 7 => by_cases hz : j = 0 <;> simp [cx_up, wC, cs_u, hz, va_upE, Int.toNat_natCast]
        | 8 => by_cases hz : j = 0 <;> simp [cx_up, wC, cs_u, hz, va_upE, Int.toNat_natCast]
        | 9 => by_cases hz : j = 0 <;> simp [cx_up, wC, cs_u, hz, va_upE, Int.toNat_natCast]
        | 10 => by_cases hz : j = 0 <;> simp [cx_up, wC, cs_u, hz, va_upE, Int.toNat_natCast]
        | 11 => by_cases hz : j = 0 <;> simp [cx_up, wC, cs_u, hz, va_upE, Int.toNat_natCast]
        | 12 => by_cases hz : j = 0 <;> simp [cx_up, wC, cs_u, hz, va_upE, Int.toNat_natCast]
        | 13 => by_cases hz : j = 0 <;> simp [cx_up, wC, cs_u, hz, va_upE, Int.toNat_natCast]
        | 14 => simp [cx_up, wC, cs_u, va_upE, Int.toNat_natCast]
        | 15 => simp [cx_up, wC, cs_u, va_upE, Int.toNat_natCast]
        | 16 => simp [cx_up, wC, cs_u, va_upE, Int.toNat_natCast]
        | k + 17 => simp [cx_up, wC]
      exact cx_zretM X B hsz hr hlk (Nat.le_of_ble_eq_true rfl) (Nat.le_of_ble_eq_true rfl) (by omega) (by omega) (by rw [jB_t hQ]) (hG) dc_C_into_30
    · refine lv_iload_n X.1 X.2.1 dc_C_into_13 rfl (lv_at hl 2 rfl) ?_
      refine cx_cSN (r := .int (jI (jB (0 ≤ b ∧ b < 4)))) (As := [.int (jI (b))]) (rest := []) X B kc_C_isPool gm_C_139 (c_C_isPool l u _ b (by omega) (by omega)) (fun _ _ _ h => h) ⟨(Nat.le_of_ble_eq_true rfl), (Nat.le_of_ble_eq_true rfl)⟩ ⟨(Nat.le_of_ble_eq_true rfl), (Nat.le_of_ble_eq_true rfl)⟩ rfl hl.1 (Nat.le_of_ble_eq_true rfl) dc_C_into_14 rfl ?_
      refine cx_ifneB (tgt := 22) X dc_C_into_17 (by decide) (fun c_3 => ?_) (fun c_3 => ?_)
      · refine lv_aload_n X.1 X.2.1 dc_C_into_22 rfl (lv_at hl 0 rfl) ?_
        refine cx_get (v := .ref (ad 3 0)) X B (wC_0 u ad S sc) rfl uw_C 3 (by decide) gf_C_19 rfl dc_C_into_23 ?_
        refine lv_iload_n X.1 X.2.1 dc_C_into_26 rfl (lv_at hl 1 rfl) ?_
        refine lv_iload_n X.1 X.2.1 dc_C_into_27 rfl (lv_at hl 2 rfl) ?_
        refine cx_iast X B (wC_3 u ad S sc) (h) (by omega) (by omega) (by decide) dc_C_into_28 (fun H locs B => ?_)
        have B : cx_B u (cx_A (wC u ad S sc) sz) (cx_up (wC u ad S sc) 3 0 (ad 3 0, .inl (u.2 0, 12, .inl (fun z_ => jI (va_up (fun z_ => S 6 z_ 0) h b z_))))) s H locs := B
        refine cx_iconst X dc_C_into_29 ?_
        have hQ : 0 ≤ (h : Int) ∧ (h : Int) < S 1 0 0 ∧ -1 ≤ b ∧ b ≤ 3 := by (try simp only [cs_nn]); omega
        have hG : cx_up (wC u ad S sc) 3 0 (ad 3 0, .inl (u.2 0, 12, .inl (fun z_ => jI (va_up (fun z_ => S 6 z_ 0) h b z_)))) = wC u ad (op_into S (h : Int) b) sc := by
          rw [op_into, if_pos hQ]
          funext k j
          match k with
          | 0 => by_cases hz : j = 0 <;> simp [cx_up, wC, cs_u, hz, va_upE, Int.toNat_natCast]
          | 1 => by_cases hz : j = 0 <;> simp [cx_up, wC, cs_u, hz, va_upE, Int.toNat_natCast]
          | 2 => by_cases hz : j = 0 <;> simp [cx_up, wC, cs_u, hz, va_upE, Int.toNat_natCast]
          | 3 => by_cases hz : j = 0 <;> simp [cx_up, wC, cs_u, hz, va_upE, Int.toNat_natCast]
          | 4 => by_cases hz : j = 0 <;> simp [cx_up, wC, cs_u, hz, va_upE, Int.toNat_natCast]
          | 5 => by_cases hz : j = 0 <;> simp [cx_up, wC, cs_u, hz, va_upE, Int.toNat_natCast]
          | 6 => by_cases hz : j = 0 <;> simp [cx_up, wC, cs_u, hz, va_upE, Int.toNat_natCast]
          | 7 => by_cases hz : j = 0 <;> simp [cx_up, wC, cs_u, hz, va_upE, Int.toNat_natCast]
          | 8 => by_cases hz : j = 0 <;> simp [cx_up, wC, cs_u, hz, va_upE, Int.toNat_natCast]
          | 9 => by_cases hz : j = 0 <;> simp [cx_up, wC, cs_u, hz, va_upE, Int.toNat_natCast]
          | 10 => by_cases hz : j = 0 <;> simp [cx_up, wC, cs_u, hz, va_upE, Int.toNat_natCast]
          | 11 => by_cases hz : j = 0 <;> simp [cx_up, wC, cs_u, hz, va_upE, Int.toNat_natCast]
          | 12 => by_cases hz : j = 0 <;> simp [cx_up, wC, cs_u, hz, va_upE, Int.toNat_natCast]
          | 13 => by_cases hz : j = 0 <;> simp [cx_up, wC, cs_u, hz, va_upE, Int.toNat_natCast]
          | 14 => simp [cx_up, wC, cs_u, va_upE, Int.toNat_natCast]
          | 15 => simp [cx_up, wC, cs_u, va_upE, Int.toNat_natCast]
          | 16 => simp [cx_up, wC, cs_u, va_upE, Int.toNat_natCast]
          | k + 17 => simp [cx_up, wC]
        exact cx_zretM X B hsz hr hlk (Nat.le_of_ble_eq_true rfl) (Nat.le_of_ble_eq_true rfl) (by omega) (by omega) (by rw [jB_t hQ]) (hG) dc_C_into_30
      · refine cx_iconst X dc_C_into_20 ?_
        have hQ : ¬ (0 ≤ (h : Int) ∧ (h : Int) < S 1 0 0 ∧ -1 ≤ b ∧ b ≤ 3) := by (try simp only [cs_nn]); omega
        exact cx_zretM X B hsz hr hlk (Nat.le_of_ble_eq_true rfl) (Nat.le_of_ble_eq_true rfl) (by omega) (by omega) (by rw [jB_f hQ]) (by rw [op_into, if_neg hQ]) dc_C_into_21
set_option maxHeartbeats 4000000 in
set_option maxRecDepth 100000 in
theorem c_C_cap (l : Launch) (u : cx_U) (sz : Nat) (ad : Nat → Nat → Nat) (S : cs_S) (sc : Nat → Nat → Int) (hI : cs_I S) (a b : Int) (a1 : -2147483648 ≤ a) (a2 : a ≤ 2147483647) (b1 : -2147483648 ≤ b) (b2 : b ≤ 2147483647) : cx_M l u mn_C_cap bc_C_cap 4 (some .boolean) 1 25 [.ref (ad 0 0), .int (jI (a)), .int (jI (b))] (wC u ad S sc) sz (some (.int (jI (jB (0 ≤ a ∧ a < S 0 0 0 ∧ 0 ≤ b ∧ b ≤ 100))))) (fun w' => w' = wC u ad (op_cap S a b) sc) 0 0 := by
  refine cx_M.of (by decide +kernel) (Nat.le_of_ble_eq_true rfl) ?_
  intro p e s m args below meth c ls hsz X hr hlk hin B hl
  have X : CallFix p m c bc_C_cap 4 s args GW "CatchShares" := X
  have hl : lv_has ls 4 [(0, .ref (ad 0 0)), (1, .int (jI (a))), (2, .int (jI (b)))] := hl
  have hI1 := hI.1
  refine lv_aload_n X.1 X.2.1 dc_C_cap_0 rfl (lv_at hl 0 rfl) ?_
  refine lv_iload_n X.1 X.2.1 dc_C_cap_1 rfl (lv_at hl 1 rfl) ?_
  by_cases hs_1 : 0 ≤ a ∧ a < S 0 0 0
  · obtain ⟨i, rfl⟩ : ∃ i : Nat, a = (i : Int) := ⟨a.toNat, by omega⟩
    have hi : (i : Int) < S 0 0 0 := hs_1.2
    refine cx_cVN (As := [.int (jI (i : Int))]) (rest := []) X B kc_C_findStock gm_C_62 (c_C_findStock l u ad S sc hI i hi) (fun _ _ _ h => h) (wC_0 u ad S sc) rfl rfl ⟨(Nat.le_of_ble_eq_true rfl), (Nat.le_of_ble_eq_true rfl)⟩ ⟨(Nat.le_of_ble_eq_true rfl), (Nat.le_of_ble_eq_true rfl)⟩ rfl hl.1 (Nat.le_of_ble_eq_true rfl) dc_C_cap_2 rfl ?_
    refine lv_astore_n (lv' := [(3, .ref (ad 14 i)), (0, .ref (ad 0 0)), (1, .int (jI ((i : Int)))), (2, .int (jI (b)))]) X.1 X.2.1 dc_C_cap_5 rfl hl (by decide) rfl (fun ls hl => ?_)
    refine lv_aload_n X.1 X.2.1 dc_C_cap_6 rfl (lv_at hl 0 rfl) ?_
    refine lv_ifnull X.1 X.2.1 dc_C_cap_7 ?_
    refine lv_iload_n X.1 X.2.1 dc_C_cap_10 rfl (lv_at hl 3 rfl) ?_
    refine cx_i2l X (by omega) (by omega) dc_C_cap_11 ?_
    refine cx_lconst (a := 0) X dc_C_cap_12 (by decide +kernel) ?_
    refine cx_ldc2 (a := 100) X gk_C_142 (by decide +kernel) dc_C_cap_13 ?_
    refine cx_cSN (r := .int (jI (jB (0 ≤ b ∧ b ≤ 100)))) (As := [.long (jL (b)), .long (jL (0)), .long (jL (100))]) (rest := []) X B kc_C_isWithin gm_C_48 (c_C_isWithin l u _ b 0 100 (by omega) (by omega) (by omega) (by omega) (by omega) (by omega)) (fun _ _ _ h => h) ⟨(Nat.le_of_ble_eq_true rfl), (Nat.le_of_ble_eq_true rfl)⟩ ⟨(Nat.le_of_ble_eq_true rfl), (Nat.le_of_ble_eq_true rfl)⟩ rfl hl.1 (Nat.le_of_ble_eq_true rfl) dc_C_cap_16 rfl ?_
    refine cx_ifneB (tgt := 24) X dc_C_cap_19 (by decide) (fun c_2 => ?_) (fun c_2 => ?_)
    · refine lv_aload_n X.1 X.2.1 dc_C_cap_24 rfl (lv_at hl 0 rfl) ?_
      refine lv_iload_n X.1 X.2.1 dc_C_cap_25 rfl (lv_at hl 3 rfl) ?_
      refine cx_put (v := .int (jI (b))) X B (wC_14 u ad S sc hi) rfl uw_S ft_S fo_S fn_S 7 (by decide) gf_C_152 rfl (fo_S 7 (by decide)) rfl rfl (Nat.le_of_ble_eq_true rfl) dc_C_cap_26 (fun H locs B => ?_)
      have B : cx_B u (cx_A (wC u ad S sc) sz) (cx_up (wC u ad S sc) 14 i (ad 14 i, .inr (2, [.int (jI ((i : Int))), .long (jL (S 12 i 0)), .ref (ad 15 i), .ref (ad 16 i), .long (jL (S 13 i 0)), .int (jI (S 14 i 0)), .int (jI (S 15 i 0)), .int (jI (b)), .long (jL (S 17 i 0)), .long (jL (S 18 i 0)), .long (jL (S 22 i 0))]))) s H locs := B
      refine cx_iconst X dc_C_cap_29 ?_
      have hQ : 0 ≤ (i : Int) ∧ (i : Int) < S 0 0 0 ∧ 0 ≤ b ∧ b ≤ 100 := by (try simp only [cs_nn]); omega
      have hG : cx_up (wC u ad S sc) 14 i (ad 14 i, .inr (2, [.int (jI ((i : Int))), .long (jL (S 12 i 0)), .ref (ad 15 i), .ref (ad 16 i), .long (jL (S 13 i 0)), .int (jI (S 14 i 0)), .int (jI (S 15 i 0)), .int (jI (b)), .long (jL (S 17 i 0)), .long (jL (S 18 i 0)), .long (jL (S 22 i 0))])) = wC u ad (op_cap S (i : Int) b) sc := by
        rw [op_cap, if_pos hQ]
        funext k j
        match k with
        | 0 => by_cases hz : j = 0 <;> simp [cx_up, wC, cs_u, hz, Int.toNat_natCast, hi]
        | 1 => by_cases hz : j = 0 <;> simp [cx_up, wC, cs_u, hz, Int.toNat_natCast, hi]
        | 2 => by_cases hz : j = 0 <;> simp [cx_up, wC, cs_u, hz, Int.toNat_natCast, hi]
        | 3 => by_cases hz : j = 0 <;> simp [cx_up, wC, cs_u, hz, Int.toNat_natCast, hi]
        | 4 => by_cases hz : j = 0 <;> simp [cx_up, wC, cs_u, hz, Int.toNat_natCast, hi]
        | 5 => by_cases hz : j = 0 <;> simp [cx_up, wC, cs_u, hz, Int.toNat_natCast, hi]
        | 6 => by_cases hz : j = 0 <;> simp [cx_up, wC, cs_u, hz, Int.toNat_natCast, hi]
        | 7 => by_cases hz : j = 0 <;> simp [cx_up, wC, cs_u, hz, Int.toNat_natCast, hi]
        | 8 => by_cases hz : j = 0 <;> simp [cx_up, wC, cs_u, hz, Int.toNat_natCast, hi]
        | 9 => by_cases hz : j = 0 <;> simp [cx_up, wC, cs_u, hz, Int.toNat_natCast, hi]
        | 10 => by_cases hz : j = 0 <;> simp [cx_up, wC, cs_u, hz, Int.toNat_natCast, hi]
        | 11 => by_cases hz : j = 0 <;> simp [cx_up, wC, cs_u, hz, Int.toNat_natCast, hi]
        | 12 => by_cases hz : j = 0 <;> simp [cx_up, wC, cs_u, hz, Int.toNat_natCast, hi]
        | 13 => by_cases hz : j = 0 <;> simp [cx_up, wC, cs_u, hz, Int.toNat_natCast, hi]
        | 14 => by_cases hj0 : j = i <;> simp [cx_up, wC, cs_u, Int.toNat_natCast, hi, hj0]
        | 15 => by_cases hj0 : j = i <;> simp [cx_up, wC, cs_u, Int.toNat_natCast, hi, hj0]
        | 16 => by_cases hj0 : j = i <;> simp [cx_up, wC, cs_u, Int.toNat_natCast, hi, hj0]
        | k + 17 => simp [cx_up, wC]
      exact cx_zretM X B hsz hr hlk (Nat.le_of_ble_eq_true rfl) (Nat.le_of_ble_eq_true rfl) (by omega) (by omega) (by rw [jB_t hQ]) (hG) dc_C_cap_30
    · refine cx_iconst X dc_C_cap_22 ?_
      have hQ : ¬ (0 ≤ (i : Int) ∧ (i : Int) < S 0 0 0 ∧ 0 ≤ b ∧ b ≤ 100) := by (try simp only [cs_nn]); omega
      exact cx_zretM X B hsz hr hlk (Nat.le_of_ble_eq_true rfl) (Nat.le_of_ble_eq_true rfl) (by omega) (by omega) (by rw [jB_f hQ]) (by rw [op_cap, if_neg hQ]) dc_C_cap_23
  · refine cx_cVN (As := [.int (jI (a))]) (rest := []) X B kc_C_findStock gm_C_62 (c_C_findStock_0 l u ad S sc hI a (by omega) (by omega) hs_1) (fun _ _ _ h => h) (wC_0 u ad S sc) rfl rfl ⟨(Nat.le_of_ble_eq_true rfl), (Nat.le_of_ble_eq_true rfl)⟩ ⟨(Nat.le_of_ble_eq_true rfl), (Nat.le_of_ble_eq_true rfl)⟩ rfl hl.1 (Nat.le_of_ble_eq_true rfl) dc_C_cap_2 rfl ?_
    refine lv_astore_nN (lv' := [(3, .null), (0, .ref (ad 0 0)), (1, .int (jI (a))), (2, .int (jI (b)))]) X.1 X.2.1 dc_C_cap_5 rfl hl (by decide) rfl (fun ls hl => ?_)
    refine lv_aload_nN X.1 X.2.1 dc_C_cap_6 rfl (lv_at hl 0 rfl) ?_
    refine lv_ifnullN (tgt := 22) X.1 X.2.1 dc_C_cap_7 (by decide) ?_
    refine cx_iconst X dc_C_cap_22 ?_
    have hQ : ¬ (0 ≤ a ∧ a < S 0 0 0 ∧ 0 ≤ b ∧ b ≤ 100) := by (try simp only [cs_nn]); omega
    exact cx_zretM X B hsz hr hlk (Nat.le_of_ble_eq_true rfl) (Nat.le_of_ble_eq_true rfl) (by omega) (by omega) (by rw [jB_f hQ]) (by rw [op_cap, if_neg hQ]) dc_C_cap_23
