set_option maxHeartbeats 4000000 in
set_option maxRecDepth 100000 in
theorem c_M_in (l : Launch) (u : cx_U) (w : cx_W) (x a b : Int) (x1 : -9223372036854775808 ≤ x) (x2 : x ≤ 9223372036854775807) (a1 : -9223372036854775808 ≤ a) (a2 : a ≤ 9223372036854775807) (b1 : -9223372036854775808 ≤ b) (b2 : b ≤ 9223372036854775807) : cx_N l u mn_M_in bc_M_in 6 (some .boolean) 0 0 [.long (jL (x)), .long (jL (a)), .long (jL (b))] (w) (.int (jI (jB (a ≤ x ∧ x ≤ b)))) := by
  refine cx_N.of (by decide +kernel) (Nat.le_of_ble_eq_true rfl) ?_
  intro p e s m args below meth c ls A X hr hlk B hl
  have X : CallFix p m c bc_M_in 6 s args GW "CatchSharesModel" := X
  have hl : lv_has ls 6 [(0, .long (jL (x))), (2, .long (jL (a))), (4, .long (jL (b)))] := hl
  refine lv_lload_n X.1 X.2.1 dc_M_in_0 rfl (lv_at hl 0 rfl) ?_
  refine lv_lload_n X.1 X.2.1 dc_M_in_1 rfl (lv_at hl 1 rfl) ?_
  refine cx_lcmp_lt (tgt := 17) X (by omega) (by omega) (by omega) (by omega) dc_M_in_2 dc_M_in_3 (by decide) (fun c_1 => ?_) (fun c_1 => ?_)
  · refine cx_iconst X dc_M_in_17 ?_
    exact cx_zretN X hr hlk (by omega) (by omega) (by rw [jB_f (by omega)]) dc_M_in_18
  · refine lv_lload_n X.1 X.2.1 dc_M_in_6 rfl (lv_at hl 0 rfl) ?_
    refine lv_lload X.1 X.2.1 dc_M_in_7 (lv_at hl 2 rfl) ?_
    refine cx_lcmp_gt (tgt := 17) X (by omega) (by omega) (by omega) (by omega) dc_M_in_9 dc_M_in_10 (by decide) (fun c_2 => ?_) (fun c_2 => ?_)
    · refine cx_iconst X dc_M_in_17 ?_
      exact cx_zretN X hr hlk (by omega) (by omega) (by rw [jB_f (by omega)]) dc_M_in_18
    · refine cx_iconst X dc_M_in_13 ?_
      refine lv_goto (tgt := 18) X.1 X.2.1 dc_M_in_14 (by decide) ?_
      exact cx_zretN X hr hlk (by omega) (by omega) (by rw [jB_t (by omega)]) dc_M_in_18
set_option maxHeartbeats 4000000 in
set_option maxRecDepth 100000 in
theorem c_M_isStock (l : Launch) (u : cx_U) (ad : Nat → Nat → Nat) (S : cs_S) (sc : Nat → Nat → Int) (hI : cs_I S) (a : Int) (a1 : -2147483648 ≤ a) (a2 : a ≤ 2147483647) : cx_N l u mn_M_isStock bc_M_isStock 2 (some .boolean) 1 25 [.ref (ad 20 0), .int (jI (a))] (wM u ad S sc) (.int (jI (jB (0 ≤ a ∧ a < S 0 0 0)))) := by
  refine cx_N.of (by decide +kernel) (Nat.le_of_ble_eq_true rfl) ?_
  intro p e s m args below meth c ls A X hr hlk B hl
  have X : CallFix p m c bc_M_isStock 2 s args GW "CatchSharesModel" := X
  have hl : lv_has ls 2 [(0, .ref (ad 20 0)), (1, .int (jI (a)))] := hl
  have hI1 := hI.1
  refine lv_iload_n X.1 X.2.1 dc_M_isStock_0 rfl (lv_at hl 1 rfl) ?_
  refine cx_i2l X (by omega) (by omega) dc_M_isStock_1 ?_
  refine cx_lconst (a := 0) X dc_M_isStock_2 (by decide +kernel) ?_
  refine lv_aload_n X.1 X.2.1 dc_M_isStock_3 rfl (lv_at hl 0 rfl) ?_
  refine cx_get (v := .int (jI (S 0 0 0))) X B (wM_20 u ad S sc) rfl uw_M 0 (by decide) gf_M_79 rfl dc_M_isStock_4 ?_
  refine cx_i2l X (by omega) (by omega) dc_M_isStock_7 ?_
  refine cx_lconst (a := 1) X dc_M_isStock_8 (by decide +kernel) ?_
  refine cx_lsub X dc_M_isStock_9 ?_
  refine cx_cSN (r := .int (jI (jB (0 ≤ a ∧ a ≤ ((S 0 0 0) - 1))))) (As := [.long (jL (a)), .long (jL (0)), .long (jL ((S 0 0 0) - 1))]) (rest := []) X B kc_M_in gm_M_82 (c_M_in l u _ a 0 ((S 0 0 0) - 1) (by omega) (by omega) (by omega) (by omega) (by omega) (by omega)) (fun _ _ _ h => h) ⟨(Nat.le_of_ble_eq_true rfl), (Nat.le_of_ble_eq_true rfl)⟩ ⟨(Nat.le_of_ble_eq_true rfl), (Nat.le_of_ble_eq_true rfl)⟩ rfl hl.1 (Nat.le_of_ble_eq_true rfl) dc_M_isStock_10 rfl ?_
  exact cx_zretN X hr hlk (jB_r _).1 (jB_r _).2 (by exact congrArg (fun q => Value.int (jI q)) (jB_c (by omega))) dc_M_isStock_13
set_option maxHeartbeats 4000000 in
set_option maxRecDepth 100000 in
theorem c_M_isHolder (l : Launch) (u : cx_U) (ad : Nat → Nat → Nat) (S : cs_S) (sc : Nat → Nat → Int) (hI : cs_I S) (a : Int) (a1 : -2147483648 ≤ a) (a2 : a ≤ 2147483647) : cx_N l u mn_M_isHolder bc_M_isHolder 2 (some .boolean) 1 25 [.ref (ad 20 0), .int (jI (a))] (wM u ad S sc) (.int (jI (jB (0 ≤ a ∧ a < S 1 0 0)))) := by
  refine cx_N.of (by decide +kernel) (Nat.le_of_ble_eq_true rfl) ?_
  intro p e s m args below meth c ls A X hr hlk B hl
  have X : CallFix p m c bc_M_isHolder 2 s args GW "CatchSharesModel" := X
  have hl : lv_has ls 2 [(0, .ref (ad 20 0)), (1, .int (jI (a)))] := hl
  have hI1 := hI.1
  refine lv_iload_n X.1 X.2.1 dc_M_isHolder_0 rfl (lv_at hl 1 rfl) ?_
  refine cx_i2l X (by omega) (by omega) dc_M_isHolder_1 ?_
  refine cx_lconst (a := 0) X dc_M_isHolder_2 (by decide +kernel) ?_
  refine lv_aload_n X.1 X.2.1 dc_M_isHolder_3 rfl (lv_at hl 0 rfl) ?_
  refine cx_get (v := .int (jI (S 1 0 0))) X B (wM_20 u ad S sc) rfl uw_M 9 (by decide) gf_M_86 rfl dc_M_isHolder_4 ?_
  refine cx_i2l X (by omega) (by omega) dc_M_isHolder_7 ?_
  refine cx_lconst (a := 1) X dc_M_isHolder_8 (by decide +kernel) ?_
  refine cx_lsub X dc_M_isHolder_9 ?_
  refine cx_cSN (r := .int (jI (jB (0 ≤ a ∧ a ≤ ((S 1 0 0) - 1))))) (As := [.long (jL (a)), .long (jL (0)), .long (jL ((S 1 0 0) - 1))]) (rest := []) X B kc_M_in gm_M_82 (c_M_in l u _ a 0 ((S 1 0 0) - 1) (by omega) (by omega) (by omega) (by omega) (by omega) (by omega)) (fun _ _ _ h => h) ⟨(Nat.le_of_ble_eq_true rfl), (Nat.le_of_ble_eq_true rfl)⟩ ⟨(Nat.le_of_ble_eq_true rfl), (Nat.le_of_ble_eq_true rfl)⟩ rfl hl.1 (Nat.le_of_ble_eq_true rfl) dc_M_isHolder_10 rfl ?_
  exact cx_zretN X hr hlk (jB_r _).1 (jB_r _).2 (by exact congrArg (fun q => Value.int (jI q)) (jB_c (by omega))) dc_M_isHolder_13
set_option maxHeartbeats 4000000 in
set_option maxRecDepth 100000 in
theorem c_M_isOwner (l : Launch) (u : cx_U) (w : cx_W) (a : Int) (a1 : -2147483648 ≤ a) (a2 : a ≤ 2147483647) : cx_N l u mn_M_isOwner bc_M_isOwner 1 (some .boolean) 1 25 [.int (jI (a))] (w) (.int (jI (jB (0 ≤ a ∧ a < 10)))) := by
  refine cx_N.of (by decide +kernel) (Nat.le_of_ble_eq_true rfl) ?_
  intro p e s m args below meth c ls A X hr hlk B hl
  have X : CallFix p m c bc_M_isOwner 1 s args GW "CatchSharesModel" := X
  have hl : lv_has ls 1 [(0, .int (jI (a)))] := hl
  refine lv_iload_n X.1 X.2.1 dc_M_isOwner_0 rfl (lv_at hl 0 rfl) ?_
  refine cx_i2l X (by omega) (by omega) dc_M_isOwner_1 ?_
  refine cx_lconst (a := 0) X dc_M_isOwner_2 (by decide +kernel) ?_
  refine cx_ldc2 (a := 9) X gk_M_89 (by decide +kernel) dc_M_isOwner_3 ?_
  refine cx_cSN (r := .int (jI (jB (0 ≤ a ∧ a ≤ 9)))) (As := [.long (jL (a)), .long (jL (0)), .long (jL (9))]) (rest := []) X B kc_M_in gm_M_82 (c_M_in l u _ a 0 9 (by omega) (by omega) (by omega) (by omega) (by omega) (by omega)) (fun _ _ _ h => h) ⟨(Nat.le_of_ble_eq_true rfl), (Nat.le_of_ble_eq_true rfl)⟩ ⟨(Nat.le_of_ble_eq_true rfl), (Nat.le_of_ble_eq_true rfl)⟩ rfl hl.1 (Nat.le_of_ble_eq_true rfl) dc_M_isOwner_6 rfl ?_
  exact cx_zretN X hr hlk (jB_r _).1 (jB_r _).2 (by exact congrArg (fun q => Value.int (jI q)) (jB_c (by omega))) dc_M_isOwner_9
/-- beyond the holders that there are, weights and shares are 0 -/
def cs_Y (S : cs_S) : Prop := ∀ i h : Nat, S 1 0 0 ≤ (h : Int) → S 20 i h = 0 ∧ S 21 i h = 0
theorem cs_sum_z {f : Nat → Int} {n k : Nat} (h : ∀ j, n ≤ j → f j = 0) : cs_sum f (n + k) = cs_sum f n := by
  induction k with
  | zero => rfl
  | succ k ih => rw [← Nat.add_assoc, cs_sum_s, ih, h (n + k) (by omega)]; omega
theorem cs_sum_y {S : cs_S} (hI : cs_I S) {f : Nat → Int} (h : ∀ j : Nat, S 1 0 0 ≤ (j : Int) → f j = 0) : cs_sum f (S 1 0 0).toNat = cs_sum f 12 := by
  have h1 := hI.1
  have h2 := cs_sum_z (f := f) (n := (S 1 0 0).toNat) (k := 12 - (S 1 0 0).toNat) (fun j hj => h j (by omega))
  rw [show (S 1 0 0).toNat + (12 - (S 1 0 0).toNat) = 12 by omega] at h2
  exact h2.symm
set_option maxHeartbeats 4000000 in
set_option maxRecDepth 100000 in
theorem c_M_allWeights (l : Launch) (u : cx_U) (ad : Nat → Nat → Nat) (S : cs_S) (sc : Nat → Nat → Int) (hI : cs_I S) (hY : cs_Y S) (i : Nat) (hi : (i : Int) < S 0 0 0) : cx_N l u mn_M_allWeights bc_M_allWeights 5 (some .long) 0 0 [.ref (ad 20 0), .int (jI ((i : Int)))] (wM u ad S sc) (.long (jL (cs_sum (S 20 i) 12))) := by
  refine cx_N.of (by decide +kernel) (Nat.le_of_ble_eq_true rfl) ?_
  intro p e s m args below meth c ls A X hr hlk B hl
  have X : CallFix p m c bc_M_allWeights 5 s args GW "CatchSharesModel" := X
  have hl : lv_has ls 5 [(0, .ref (ad 20 0)), (1, .int (jI ((i : Int))))] := hl
  have hI1 := hI.1
  refine cx_lconst (a := 0) X dc_M_allWeights_0 (by decide +kernel) ?_
  refine lv_lstore_n (lv' := [(2, .long (jL (0))), (0, .ref (ad 20 0)), (1, .int (jI ((i : Int))))]) X.1 X.2.1 dc_M_allWeights_1 rfl hl (by decide) rfl (fun ls hl => ?_)
  refine cx_iconst X dc_M_allWeights_2 ?_
  refine lv_istore (lv' := [(4, .int (jI (0))), (2, .long (jL (0))), (0, .ref (ad 20 0)), (1, .int (jI ((i : Int))))]) X.1 X.2.1 dc_M_allWeights_3 hl (by decide) rfl (fun ls hl => ?_)
  have lp_1 : ∀ (n_2 h : Nat) (ls : Array Slot) , (h : Int) ≤ S 1 0 0 → S 1 0 0 - (h : Int) < (n_2 : Int) → lv_has ls 5 [(0, .ref (ad 20 0)), (1, .int (jI ((i : Int)))), (2, .long (jL (cs_sum (S 20 i) h))), (4, .int (jI ((h : Int))))] → W p l e (cx_R 0 0 0 0) s m args below meth c s.heap [] 0 0 (MQ below (fun _ st_ oc_ t_ => oc_ = .returned (some (.long (jL (cs_sum (S 20 i) 12)))) ∧ t_.heap = st_.heap) args s 0 0 (fun _ => False)) (F0 m 5 ls []) := by
    intro n_2
    induction n_2 with
    | zero => intro h ls  hi_4 hn_5; exfalso; omega
    | succ n_2 ih_3 =>
      intro h ls  hi_4 hn_5 hl
      refine lv_iload X.1 X.2.1 dc_M_allWeights_5 (lv_at hl 3 rfl) ?_
      refine lv_aload_n X.1 X.2.1 dc_M_allWeights_7 rfl (lv_at hl 0 rfl) ?_
      refine cx_get (v := .int (jI (S 1 0 0))) X B (wM_20 u ad S sc) rfl uw_M 9 (by decide) gf_M_86 rfl dc_M_allWeights_8 ?_
      refine cx_icmp_ge (tgt := 35) X (by omega) (by omega) (by omega) (by omega) dc_M_allWeights_11 (by decide) (fun c_6 => ?_) (fun c_6 => ?_)
      · refine lv_lload_n X.1 X.2.1 dc_M_allWeights_35 rfl (lv_at hl 2 rfl) ?_
        exact cx_lretN X hr hlk (by rw [← cs_sum_y hI (fun j hj => (hY i j hj).1), show (S 1 0 0).toNat = h by omega]) dc_M_allWeights_36
      · refine lv_lload_n X.1 X.2.1 dc_M_allWeights_14 rfl (lv_at hl 2 rfl) ?_
        refine lv_aload_n X.1 X.2.1 dc_M_allWeights_15 rfl (lv_at hl 0 rfl) ?_
        refine cx_get (v := .ref (ad 31 0)) X B (wM_20 u ad S sc) rfl uw_M 12 (by decide) gf_M_42 rfl dc_M_allWeights_16 ?_
        refine cx_bipush X dc_M_allWeights_19 (by decide +kernel) ?_
        refine lv_iload_n X.1 X.2.1 dc_M_allWeights_21 rfl (lv_at hl 1 rfl) ?_
        refine cx_imul X dc_M_allWeights_22 ?_
        refine lv_iload X.1 X.2.1 dc_M_allWeights_23 (lv_at hl 3 rfl) ?_
        refine cx_iadd X dc_M_allWeights_25 ?_
        refine cx_lald X B (wM_31 u ad S sc) ((12 * i) + h) (by omega) (by omega) (by decide) dc_M_allWeights_26 ?_
        rw [show ((12 * i) + h) / 12 = i by omega, show ((12 * i) + h) % 12 = h by omega]
        refine cx_ladd X dc_M_allWeights_27 ?_
        refine lv_lstore_n (lv' := [(2, .long (jL ((cs_sum (S 20 i) h) + (S 20 i h)))), (0, .ref (ad 20 0)), (1, .int (jI ((i : Int)))), (4, .int (jI ((h : Int))))]) X.1 X.2.1 dc_M_allWeights_28 rfl hl (by decide) rfl (fun ls hl => ?_)
        refine lv_iinc (v := jI ((h : Int) + 1)) (lv' := [(4, .int (jI ((h : Int) + 1))), (2, .long (jL ((cs_sum (S 20 i) h) + (S 20 i h)))), (0, .ref (ad 20 0)), (1, .int (jI ((i : Int))))]) X.1 X.2.1 dc_M_allWeights_29 hl (k := 3) rfl (jI_add _ _) (by decide) rfl (fun ls hl => ?_)
        refine lv_goto (tgt := 5) X.1 X.2.1 dc_M_allWeights_32 (by decide) ?_
        exact ih_3 (h + 1) ls  (by omega) (by omega) (by  exact lv_sub hl [2, 3, 1, 0] rfl)
  exact lp_1 ((S 1 0 0 : Int).toNat + 1) 0 ls  (by omega) (by omega) (by  exact lv_sub hl [2, 3, 1, 0] rfl)
set_option maxHeartbeats 4000000 in
set_option maxRecDepth 100000 in
theorem c_M_allShares (l : Launch) (u : cx_U) (ad : Nat → Nat → Nat) (S : cs_S) (sc : Nat → Nat → Int) (hI : cs_I S) (hY : cs_Y S) (i : Nat) (hi : (i : Int) < S 0 0 0) : cx_N l u mn_M_allShares bc_M_allShares 5 (some .long) 0 0 [.ref (ad 20 0), .int (jI ((i : Int)))] (wM u ad S sc) (.long (jL (cs_sum (S 21 i) 12))) := by
  refine cx_N.of (by decide +kernel) (Nat.le_of_ble_eq_true rfl) ?_
  intro p e s m args below meth c ls A X hr hlk B hl
  have X : CallFix p m c bc_M_allShares 5 s args GW "CatchSharesModel" := X
  have hl : lv_has ls 5 [(0, .ref (ad 20 0)), (1, .int (jI ((i : Int))))] := hl
  have hI1 := hI.1
  refine cx_lconst (a := 0) X dc_M_allShares_0 (by decide +kernel) ?_
  refine lv_lstore_n (lv' := [(2, .long (jL (0))), (0, .ref (ad 20 0)), (1, .int (jI ((i : Int))))]) X.1 X.2.1 dc_M_allShares_1 rfl hl (by decide) rfl (fun ls hl => ?_)
  refine cx_iconst X dc_M_allShares_2 ?_
  refine lv_istore (lv' := [(4, .int (jI (0))), (2, .long (jL (0))), (0, .ref (ad 20 0)), (1, .int (jI ((i : Int))))]) X.1 X.2.1 dc_M_allShares_3 hl (by decide) rfl (fun ls hl => ?_)
  have lp_1 : ∀ (n_2 h : Nat) (ls : Array Slot) , (h : Int) ≤ S 1 0 0 → S 1 0 0 - (h : Int) < (n_2 : Int) → lv_has ls 5 [(0, .ref (ad 20 0)), (1, .int (jI ((i : Int)))), (2, .long (jL (cs_sum (S 21 i) h))), (4, .int (jI ((h : Int))))] → W p l e (cx_R 0 0 0 0) s m args below meth c s.heap [] 0 0 (MQ below (fun _ st_ oc_ t_ => oc_ = .returned (some (.long (jL (cs_sum (S 21 i) 12)))) ∧ t_.heap = st_.heap) args s 0 0 (fun _ => False)) (F0 m 5 ls []) := by
    intro n_2
    induction n_2 with
    | zero => intro h ls  hi_4 hn_5; exfalso; omega
    | succ n_2 ih_3 =>
      intro h ls  hi_4 hn_5 hl
      refine lv_iload X.1 X.2.1 dc_M_allShares_5 (lv_at hl 3 rfl) ?_
      refine lv_aload_n X.1 X.2.1 dc_M_allShares_7 rfl (lv_at hl 0 rfl) ?_
      refine cx_get (v := .int (jI (S 1 0 0))) X B (wM_20 u ad S sc) rfl uw_M 9 (by decide) gf_M_86 rfl dc_M_allShares_8 ?_
      refine cx_icmp_ge (tgt := 35) X (by omega) (by omega) (by omega) (by omega) dc_M_allShares_11 (by decide) (fun c_6 => ?_) (fun c_6 => ?_)
      · refine lv_lload_n X.1 X.2.1 dc_M_allShares_35 rfl (lv_at hl 2 rfl) ?_
        exact cx_lretN X hr hlk (by rw [← cs_sum_y hI (fun j hj => (hY i j hj).2), show (S 1 0 0).toNat = h by omega]) dc_M_allShares_36
      · refine lv_lload_n X.1 X.2.1 dc_M_allShares_14 rfl (lv_at hl 2 rfl) ?_
        refine lv_aload_n X.1 X.2.1 dc_M_allShares_15 rfl (lv_at hl 0 rfl) ?_
        refine cx_get (v := .ref (ad 32 0)) X B (wM_20 u ad S sc) rfl uw_M 13 (by decide) gf_M_45 rfl dc_M_allShares_16 ?_
        refine cx_bipush X dc_M_allShares_19 (by decide +kernel) ?_
        refine lv_iload_n X.1 X.2.1 dc_M_allShares_21 rfl (lv_at hl 1 rfl) ?_
        refine cx_imul X dc_M_allShares_22 ?_
        refine lv_iload X.1 X.2.1 dc_M_allShares_23 (lv_at hl 3 rfl) ?_
        refine cx_iadd X dc_M_allShares_25 ?_
        refine cx_lald X B (wM_32 u ad S sc) ((12 * i) + h) (by omega) (by omega) (by decide) dc_M_allShares_26 ?_
        rw [show ((12 * i) + h) / 12 = i by omega, show ((12 * i) + h) % 12 = h by omega]
        refine cx_ladd X dc_M_allShares_27 ?_
        refine lv_lstore_n (lv' := [(2, .long (jL ((cs_sum (S 21 i) h) + (S 21 i h)))), (0, .ref (ad 20 0)), (1, .int (jI ((i : Int)))), (4, .int (jI ((h : Int))))]) X.1 X.2.1 dc_M_allShares_28 rfl hl (by decide) rfl (fun ls hl => ?_)
        refine lv_iinc (v := jI ((h : Int) + 1)) (lv' := [(4, .int (jI ((h : Int) + 1))), (2, .long (jL ((cs_sum (S 21 i) h) + (S 21 i h)))), (0, .ref (ad 20 0)), (1, .int (jI ((i : Int))))]) X.1 X.2.1 dc_M_allShares_29 hl (k := 3) rfl (jI_add _ _) (by decide) rfl (fun ls hl => ?_)
        refine lv_goto (tgt := 5) X.1 X.2.1 dc_M_allShares_32 (by decide) ?_
        exact ih_3 (h + 1) ls  (by omega) (by omega) (by  exact lv_sub hl [2, 3, 1, 0] rfl)
  exact lp_1 ((S 1 0 0 : Int).toNat + 1) 0 ls  (by omega) (by omega) (by  exact lv_sub hl [2, 3, 1, 0] rfl)
set_option maxHeartbeats 4000000 in
set_option maxRecDepth 100000 in
theorem c_M_leftOn (l : Launch) (u : cx_U) (ad : Nat → Nat → Nat) (S : cs_S) (sc : Nat → Nat → Int) (hI : cs_I S) (i h : Nat) (hi : (i : Int) < S 0 0 0) (hh : h < 12) (on : Int) (o1 : -2147483648 ≤ on) (o2 : on ≤ 2147483647) : cx_N l u mn_M_leftOn bc_M_leftOn 7 (some .long) 0 0 [.ref (ad 20 0), .int (jI ((i : Int))), .int (jI ((h : Int))), .int (jI (on))] (wM u ad S sc) (.long (jL (cs_left S i h on))) := by
  refine cx_N.of (by decide +kernel) (Nat.le_of_ble_eq_true rfl) ?_
  intro p e s m args below meth c ls A X hr hlk B hl
  have X : CallFix p m c bc_M_leftOn 7 s args GW "CatchSharesModel" := X
  have hl : lv_has ls 7 [(0, .ref (ad 20 0)), (1, .int (jI ((i : Int)))), (2, .int (jI ((h : Int)))), (3, .int (jI (on)))] := hl
  have hI1 := hI.1
  have hI3 := hI.2.2.1
  refine lv_aload_n X.1 X.2.1 dc_M_leftOn_0 rfl (lv_at hl 0 rfl) ?_
  refine cx_get (v := .ref (ad 32 0)) X B (wM_20 u ad S sc) rfl uw_M 13 (by decide) gf_M_45 rfl dc_M_leftOn_1 ?_
  refine cx_bipush X dc_M_leftOn_4 (by decide +kernel) ?_
  refine lv_iload_n X.1 X.2.1 dc_M_leftOn_6 rfl (lv_at hl 1 rfl) ?_
  refine cx_imul X dc_M_leftOn_7 ?_
  refine lv_iload_n X.1 X.2.1 dc_M_leftOn_8 rfl (lv_at hl 2 rfl) ?_
  refine cx_iadd X dc_M_leftOn_9 ?_
  refine cx_lald X B (wM_32 u ad S sc) ((12 * i) + h) (by omega) (by omega) (by decide) dc_M_leftOn_10 ?_
  rw [show ((12 * i) + h) / 12 = i by omega, show ((12 * i) + h) % 12 = h by omega]
  refine lv_lstore (lv' := [(4, .long (jL (S 21 i h))), (0, .ref (ad 20 0)), (1, .int (jI ((i : Int)))), (2, .int (jI ((h : Int)))), (3, .int (jI (on)))]) X.1 X.2.1 dc_M_leftOn_11 hl (by decide) rfl (fun ls hl => ?_)
  refine cx_iconst X dc_M_leftOn_13 ?_
  refine lv_istore (lv' := [(6, .int (jI (0))), (4, .long (jL (S 21 i h))), (0, .ref (ad 20 0)), (1, .int (jI ((i : Int)))), (2, .int (jI ((h : Int)))), (3, .int (jI (on)))]) X.1 X.2.1 dc_M_leftOn_14 hl (by decide) rfl (fun ls hl => ?_)
  have lp_1 : ∀ (n_2 k : Nat) (ls : Array Slot) , (k : Int) ≤ S 2 0 0 → S 2 0 0 - (k : Int) < (n_2 : Int) → lv_has ls 7 [(0, .ref (ad 20 0)), (1, .int (jI ((i : Int)))), (2, .int (jI ((h : Int)))), (3, .int (jI (on))), (4, .long (jL (S 21 i h - cs_told S (i : Int) (h : Int) on k))), (6, .int (jI ((k : Int))))] → W p l e (cx_R 0 0 0 0) s m args below meth c s.heap [] 0 0 (MQ below (fun _ st_ oc_ t_ => oc_ = .returned (some (.long (jL (cs_left S i h on)))) ∧ t_.heap = st_.heap) args s 0 0 (fun _ => False)) (F0 m 16 ls []) := by
    intro n_2
    induction n_2 with
    | zero => intro k ls  hi_4 hn_5; exfalso; omega
    | succ n_2 ih_3 =>
      intro k ls  hi_4 hn_5 hl
      have hI3 := hI3 k
      refine lv_iload X.1 X.2.1 dc_M_leftOn_16 (lv_at hl 5 rfl) ?_
      refine lv_aload_n X.1 X.2.1 dc_M_leftOn_18 rfl (lv_at hl 0 rfl) ?_
      refine cx_get (v := .int (jI (S 2 0 0))) X B (wM_20 u ad S sc) rfl uw_M 15 (by decide) gf_M_115 rfl dc_M_leftOn_19 ?_
      refine cx_icmp_ge (tgt := 75) X (by omega) (by omega) (by omega) (by omega) dc_M_leftOn_22 (by decide) (fun c_6 => ?_) (fun c_6 => ?_)
      · refine lv_lload X.1 X.2.1 dc_M_leftOn_75 (lv_at hl 4 rfl) ?_
        exact cx_lretN X hr hlk (by rw [cs_left, show (S 2 0 0).toNat = k by omega]) dc_M_leftOn_77
      · refine lv_aload_n X.1 X.2.1 dc_M_leftOn_25 rfl (lv_at hl 0 rfl) ?_
        refine cx_get (v := .ref (ad 34 0)) X B (wM_20 u ad S sc) rfl uw_M 16 (by decide) gf_M_51 rfl dc_M_leftOn_26 ?_
        refine lv_iload X.1 X.2.1 dc_M_leftOn_29 (lv_at hl 5 rfl) ?_
        refine cx_iald X B (wM_34 u ad S sc) (k) (by omega) (by omega) (by decide) dc_M_leftOn_31 ?_
        refine cx_bipush X dc_M_leftOn_32 (by decide +kernel) ?_
        refine lv_iload_n X.1 X.2.1 dc_M_leftOn_34 rfl (lv_at hl 1 rfl) ?_
        refine cx_imul X dc_M_leftOn_35 ?_
        refine lv_iload_n X.1 X.2.1 dc_M_leftOn_36 rfl (lv_at hl 2 rfl) ?_
        refine cx_iadd X dc_M_leftOn_37 ?_
        refine cx_icmp_ne (tgt := 65) X (by omega) (by omega) (by omega) (by omega) dc_M_leftOn_38 (by decide) (fun c_7 => ?_) (fun c_7 => ?_)
        · refine lv_lload X.1 X.2.1 dc_M_leftOn_65 (lv_at hl 4 rfl) ?_
          refine lv_lstore (lv' := [(4, .long (jL (S 21 i h - cs_told S (i : Int) (h : Int) on k))), (0, .ref (ad 20 0)), (1, .int (jI ((i : Int)))), (2, .int (jI ((h : Int)))), (3, .int (jI (on))), (6, .int (jI ((k : Int))))]) X.1 X.2.1 dc_M_leftOn_67 hl (by decide) rfl (fun ls hl => ?_)
          refine lv_iinc (v := jI ((k : Int) + 1)) (lv' := [(6, .int (jI ((k : Int) + 1))), (4, .long (jL (S 21 i h - cs_told S (i : Int) (h : Int) on k))), (0, .ref (ad 20 0)), (1, .int (jI ((i : Int)))), (2, .int (jI ((h : Int)))), (3, .int (jI (on)))]) X.1 X.2.1 dc_M_leftOn_69 hl (k := 5) rfl (jI_add _ _) (by decide) rfl (fun ls hl => ?_)
          refine lv_goto (tgt := 16) X.1 X.2.1 dc_M_leftOn_72 (by decide) ?_
          have qq : S 21 i h - cs_told S (i : Int) (h : Int) on (k + 1) = S 21 i h - cs_told S (i : Int) (h : Int) on k := by rw [cs_told_s, if_neg (by omega)]; omega
          exact ih_3 (k + 1) ls  (by omega) (by omega) (by rw [qq]; exact lv_sub hl [2, 3, 4, 5, 1, 0] rfl)
        · refine lv_aload_n X.1 X.2.1 dc_M_leftOn_41 rfl (lv_at hl 0 rfl) ?_
          refine cx_get (v := .ref (ad 36 0)) X B (wM_20 u ad S sc) rfl uw_M 18 (by decide) gf_M_57 rfl dc_M_leftOn_42 ?_
          refine lv_iload X.1 X.2.1 dc_M_leftOn_45 (lv_at hl 5 rfl) ?_
          refine cx_iald X B (wM_36 u ad S sc) (k) (by omega) (by omega) (by decide) dc_M_leftOn_47 ?_
          refine lv_iload_n X.1 X.2.1 dc_M_leftOn_48 rfl (lv_at hl 3 rfl) ?_
          refine cx_icmp_gt (tgt := 65) X (by omega) (by omega) (by omega) (by omega) dc_M_leftOn_49 (by decide) (fun c_8 => ?_) (fun c_8 => ?_)
          · refine lv_lload X.1 X.2.1 dc_M_leftOn_65 (lv_at hl 4 rfl) ?_
            refine lv_lstore (lv' := [(4, .long (jL (S 21 i h - cs_told S (i : Int) (h : Int) on k))), (0, .ref (ad 20 0)), (1, .int (jI ((i : Int)))), (2, .int (jI ((h : Int)))), (3, .int (jI (on))), (6, .int (jI ((k : Int))))]) X.1 X.2.1 dc_M_leftOn_67 hl (by decide) rfl (fun ls hl => ?_)
            refine lv_iinc (v := jI ((k : Int) + 1)) (lv' := [(6, .int (jI ((k : Int) + 1))), (4, .long (jL (S 21 i h - cs_told S (i : Int) (h : Int) on k))), (0, .ref (ad 20 0)), (1, .int (jI ((i : Int)))), (2, .int (jI ((h : Int)))), (3, .int (jI (on)))]) X.1 X.2.1 dc_M_leftOn_69 hl (k := 5) rfl (jI_add _ _) (by decide) rfl (fun ls hl => ?_)
            refine lv_goto (tgt := 16) X.1 X.2.1 dc_M_leftOn_72 (by decide) ?_
            have qq : S 21 i h - cs_told S (i : Int) (h : Int) on (k + 1) = S 21 i h - cs_told S (i : Int) (h : Int) on k := by rw [cs_told_s, if_neg (by omega)]; omega
            exact ih_3 (k + 1) ls  (by omega) (by omega) (by rw [qq]; exact lv_sub hl [2, 3, 4, 5, 1, 0] rfl)
          · refine lv_lload X.1 X.2.1 dc_M_leftOn_52 (lv_at hl 4 rfl) ?_
            refine lv_aload_n X.1 X.2.1 dc_M_leftOn_54 rfl (lv_at hl 0 rfl) ?_
            refine cx_get (v := .ref (ad 35 0)) X B (wM_20 u ad S sc) rfl uw_M 17 (by decide) gf_M_54 rfl dc_M_leftOn_55 ?_
            refine lv_iload X.1 X.2.1 dc_M_leftOn_58 (lv_at hl 5 rfl) ?_
            refine cx_lald X B (wM_35 u ad S sc) (k) (by omega) (by omega) (by decide) dc_M_leftOn_60 ?_
            refine cx_lsub X dc_M_leftOn_61 ?_
            refine lv_goto (tgt := 67) X.1 X.2.1 dc_M_leftOn_62 (by decide) ?_
            refine lv_lstore (lv' := [(4, .long (jL ((S 21 i h - cs_told S (i : Int) (h : Int) on k) - (S 9 k 0)))), (0, .ref (ad 20 0)), (1, .int (jI ((i : Int)))), (2, .int (jI ((h : Int)))), (3, .int (jI (on))), (6, .int (jI ((k : Int))))]) X.1 X.2.1 dc_M_leftOn_67 hl (by decide) rfl (fun ls hl => ?_)
            refine lv_iinc (v := jI ((k : Int) + 1)) (lv' := [(6, .int (jI ((k : Int) + 1))), (4, .long (jL ((S 21 i h - cs_told S (i : Int) (h : Int) on k) - (S 9 k 0)))), (0, .ref (ad 20 0)), (1, .int (jI ((i : Int)))), (2, .int (jI ((h : Int)))), (3, .int (jI (on)))]) X.1 X.2.1 dc_M_leftOn_69 hl (k := 5) rfl (jI_add _ _) (by decide) rfl (fun ls hl => ?_)
            refine lv_goto (tgt := 16) X.1 X.2.1 dc_M_leftOn_72 (by decide) ?_
            have qq : S 21 i h - cs_told S (i : Int) (h : Int) on (k + 1) = (S 21 i h - cs_told S (i : Int) (h : Int) on k) - (S 9 k 0) := by rw [cs_told_s, if_pos ⟨by omega, by omega, by omega⟩]; omega
            exact ih_3 (k + 1) ls  (by omega) (by omega) (by rw [qq]; exact lv_sub hl [2, 3, 4, 5, 1, 0] rfl)
  exact lp_1 ((S 2 0 0 : Int).toNat + 1) 0 ls  (by omega) (by omega) (by rw [show S 21 i h - cs_told S (i : Int) (h : Int) on 0 = S 21 i h by simp [cs_told, cs_sum]]; exact lv_sub hl [2, 3, 4, 5, 1, 0] rfl)
set_option maxHeartbeats 4000000 in
set_option maxRecDepth 100000 in
theorem c_M_leftOf (l : Launch) (u : cx_U) (ad : Nat → Nat → Nat) (S : cs_S) (sc : Nat → Nat → Int) (hI : cs_I S) (i h : Nat) (hi : (i : Int) < S 0 0 0) (hh : h < 12) : cx_N l u mn_M_leftOf bc_M_leftOf 3 (some .long) 1 26 [.ref (ad 20 0), .int (jI ((i : Int))), .int (jI ((h : Int)))] (wM u ad S sc) (.long (jL (cs_lf S i h))) := by
  refine cx_N.of (by decide +kernel) (Nat.le_of_ble_eq_true rfl) ?_
  intro p e s m args below meth c ls A X hr hlk B hl
  have X : CallFix p m c bc_M_leftOf 3 s args GW "CatchSharesModel" := X
  have hl : lv_has ls 3 [(0, .ref (ad 20 0)), (1, .int (jI ((i : Int)))), (2, .int (jI ((h : Int))))] := hl
  have hI1 := hI.1
  refine lv_aload_n X.1 X.2.1 dc_M_leftOf_0 rfl (lv_at hl 0 rfl) ?_
  refine lv_iload_n X.1 X.2.1 dc_M_leftOf_1 rfl (lv_at hl 1 rfl) ?_
  refine lv_iload_n X.1 X.2.1 dc_M_leftOf_2 rfl (lv_at hl 2 rfl) ?_
  refine cx_ldc (a := 99999) X gk_M_120 (by decide +kernel) dc_M_leftOf_3 ?_
  refine cx_cVN (r := .long (jL (cs_lf S i h))) (As := [.int (jI ((i : Int))), .int (jI ((h : Int))), .int (jI (99999))]) (rest := []) X B kc_M_leftOn gm_M_121 (c_M_leftOn l u ad S sc hI i h hi hh 99999 (by omega) (by omega)) (fun _ _ _ h => h) (wM_20 u ad S sc) rfl rfl ⟨(Nat.le_of_ble_eq_true rfl), (Nat.le_of_ble_eq_true rfl)⟩ ⟨(Nat.le_of_ble_eq_true rfl), (Nat.le_of_ble_eq_true rfl)⟩ rfl hl.1 (Nat.le_of_ble_eq_true rfl) dc_M_leftOf_5 rfl ?_
  exact cx_lretN X hr hlk (rfl) dc_M_leftOf_8
set_option maxHeartbeats 4000000 in
set_option maxRecDepth 100000 in
theorem c_M_overOf (l : Launch) (u : cx_U) (ad : Nat → Nat → Nat) (S : cs_S) (sc : Nat → Nat → Int) (hI : cs_I S) (i h : Nat) (hi : (i : Int) < S 0 0 0) (hh : h < 12) : cx_N l u mn_M_overOf bc_M_overOf 5 (some .long) 2 48 [.ref (ad 20 0), .int (jI ((i : Int))), .int (jI ((h : Int)))] (wM u ad S sc) (.long (jL (cs_over S i h))) := by
  refine cx_N.of (by decide +kernel) (Nat.le_of_ble_eq_true rfl) ?_
  intro p e s m args below meth c ls A X hr hlk B hl
  have X : CallFix p m c bc_M_overOf 5 s args GW "CatchSharesModel" := X
  have hl : lv_has ls 5 [(0, .ref (ad 20 0)), (1, .int (jI ((i : Int)))), (2, .int (jI ((h : Int))))] := hl
  have hI1 := hI.1
  have hf := cs_lf_b hI i h
  refine lv_aload_n X.1 X.2.1 dc_M_overOf_0 rfl (lv_at hl 0 rfl) ?_
  refine lv_iload_n X.1 X.2.1 dc_M_overOf_1 rfl (lv_at hl 1 rfl) ?_
  refine lv_iload_n X.1 X.2.1 dc_M_overOf_2 rfl (lv_at hl 2 rfl) ?_
  refine cx_cVN (r := .long (jL (cs_lf S i h))) (As := [.int (jI ((i : Int))), .int (jI ((h : Int)))]) (rest := []) X B kc_M_leftOf gm_M_125 (c_M_leftOf l u ad S sc hI i h hi hh) (fun _ _ _ h => h) (wM_20 u ad S sc) rfl rfl ⟨(Nat.le_of_ble_eq_true rfl), (Nat.le_of_ble_eq_true rfl)⟩ ⟨(Nat.le_of_ble_eq_true rfl), (Nat.le_of_ble_eq_true rfl)⟩ rfl hl.1 (Nat.le_of_ble_eq_true rfl) dc_M_overOf_3 rfl ?_
  refine lv_lstore_n (lv' := [(3, .long (jL (cs_lf S i h))), (0, .ref (ad 20 0)), (1, .int (jI ((i : Int)))), (2, .int (jI ((h : Int))))]) X.1 X.2.1 dc_M_overOf_6 rfl hl (by decide) rfl (fun ls hl => ?_)
  refine lv_lload_n X.1 X.2.1 dc_M_overOf_7 rfl (lv_at hl 0 rfl) ?_
  refine cx_lconst (a := 0) X dc_M_overOf_8 (by decide +kernel) ?_
  refine cx_lcmp_ge (tgt := 18) X (by omega) (by omega) (by omega) (by omega) dc_M_overOf_9 dc_M_overOf_10 (by decide) (fun c_1 => ?_) (fun c_1 => ?_)
  · refine cx_lconst (a := 0) X dc_M_overOf_18 (by decide +kernel) ?_
    exact cx_lretN X hr hlk (by congr 2; unfold cs_over; split <;> omega) dc_M_overOf_19
  · refine lv_lload_n X.1 X.2.1 dc_M_overOf_13 rfl (lv_at hl 0 rfl) ?_
    refine cx_lneg X dc_M_overOf_14 ?_
    refine lv_goto (tgt := 19) X.1 X.2.1 dc_M_overOf_15 (by decide) ?_
    exact cx_lretN X hr hlk (by congr 2; unfold cs_over; split <;> omega) dc_M_overOf_19
set_option maxHeartbeats 4000000 in
set_option maxRecDepth 100000 in
theorem c_M_carriedOf (l : Launch) (u : cx_U) (ad : Nat → Nat → Nat) (S : cs_S) (sc : Nat → Nat → Int) (hI : cs_I S) (i h : Nat) (hi : (i : Int) < S 0 0 0) (hh : h < 12) : cx_N l u mn_M_carriedOf bc_M_carriedOf 9 (some .long) 3 72 [.ref (ad 20 0), .int (jI ((i : Int))), .int (jI ((h : Int)))] (wM u ad S sc) (.long (jL (cs_carry S i h))) := by
  refine cx_N.of (by decide +kernel) (Nat.le_of_ble_eq_true rfl) ?_
  intro p e s m args below meth c ls A X hr hlk B hl
  have X : CallFix p m c bc_M_carriedOf 9 s args GW "CatchSharesModel" := X
  have hl : lv_has ls 9 [(0, .ref (ad 20 0)), (1, .int (jI ((i : Int)))), (2, .int (jI ((h : Int))))] := hl
  have hI1 := hI.1
  have hf := cs_lf_b hI i h
  have ho := cs_over_b hI i h
  have hp := cs_op_b hI i h
  have hs := hI.2.2.2.2.2.1 i h
  refine lv_aload_n X.1 X.2.1 dc_M_carriedOf_0 rfl (lv_at hl 0 rfl) ?_
  refine lv_iload_n X.1 X.2.1 dc_M_carriedOf_1 rfl (lv_at hl 1 rfl) ?_
  refine lv_iload_n X.1 X.2.1 dc_M_carriedOf_2 rfl (lv_at hl 2 rfl) ?_
  refine cx_cVN (r := .long (jL (cs_over S i h))) (As := [.int (jI ((i : Int))), .int (jI ((h : Int)))]) (rest := []) X B kc_M_overOf gm_M_128 (c_M_overOf l u ad S sc hI i h hi hh) (fun _ _ _ h => h) (wM_20 u ad S sc) rfl rfl ⟨(Nat.le_of_ble_eq_true rfl), (Nat.le_of_ble_eq_true rfl)⟩ ⟨(Nat.le_of_ble_eq_true rfl), (Nat.le_of_ble_eq_true rfl)⟩ rfl hl.1 (Nat.le_of_ble_eq_true rfl) dc_M_carriedOf_3 rfl ?_
  refine lv_lstore_n (lv' := [(3, .long (jL (cs_over S i h))), (0, .ref (ad 20 0)), (1, .int (jI ((i : Int)))), (2, .int (jI ((h : Int))))]) X.1 X.2.1 dc_M_carriedOf_6 rfl hl (by decide) rfl (fun ls hl => ?_)
  refine lv_lload_n X.1 X.2.1 dc_M_carriedOf_7 rfl (lv_at hl 0 rfl) ?_
  refine cx_lconst (a := 0) X dc_M_carriedOf_8 (by decide +kernel) ?_
  refine cx_lcmp_le (tgt := 36) X (by omega) (by omega) (by omega) (by omega) dc_M_carriedOf_9 dc_M_carriedOf_10 (by decide) (fun c_1 => ?_) (fun c_1 => ?_)
  · refine lv_aload_n X.1 X.2.1 dc_M_carriedOf_36 rfl (lv_at hl 1 rfl) ?_
    refine lv_iload_n X.1 X.2.1 dc_M_carriedOf_37 rfl (lv_at hl 2 rfl) ?_
    refine lv_iload_n X.1 X.2.1 dc_M_carriedOf_38 rfl (lv_at hl 3 rfl) ?_
    refine cx_cVN (r := .long (jL (cs_lf S i h))) (As := [.int (jI ((i : Int))), .int (jI ((h : Int)))]) (rest := []) X B kc_M_leftOf gm_M_125 (c_M_leftOf l u ad S sc hI i h hi hh) (fun _ _ _ h => h) (wM_20 u ad S sc) rfl rfl ⟨(Nat.le_of_ble_eq_true rfl), (Nat.le_of_ble_eq_true rfl)⟩ ⟨(Nat.le_of_ble_eq_true rfl), (Nat.le_of_ble_eq_true rfl)⟩ rfl hl.1 (Nat.le_of_ble_eq_true rfl) dc_M_carriedOf_39 rfl ?_
    refine lv_lstore (lv' := [(5, .long (jL (cs_lf S i h))), (3, .long (jL (cs_over S i h))), (0, .ref (ad 20 0)), (1, .int (jI ((i : Int)))), (2, .int (jI ((h : Int))))]) X.1 X.2.1 dc_M_carriedOf_42 hl (by decide) rfl (fun ls hl => ?_)
    refine lv_aload_n X.1 X.2.1 dc_M_carriedOf_44 rfl (lv_at hl 2 rfl) ?_
    refine cx_get (v := .ref (ad 32 0)) X B (wM_20 u ad S sc) rfl uw_M 13 (by decide) gf_M_45 rfl dc_M_carriedOf_45 ?_
    refine cx_bipush X dc_M_carriedOf_48 (by decide +kernel) ?_
    refine lv_iload_n X.1 X.2.1 dc_M_carriedOf_50 rfl (lv_at hl 3 rfl) ?_
    refine cx_imul X dc_M_carriedOf_51 ?_
    refine lv_iload_n X.1 X.2.1 dc_M_carriedOf_52 rfl (lv_at hl 4 rfl) ?_
    refine cx_iadd X dc_M_carriedOf_53 ?_
    refine cx_lald X B (wM_32 u ad S sc) ((12 * i) + h) (by omega) (by omega) (by decide) dc_M_carriedOf_54 ?_
    rw [show ((12 * i) + h) / 12 = i by omega, show ((12 * i) + h) % 12 = h by omega]
    refine cx_ldc2 (a := 10) X gk_M_131 (by decide +kernel) dc_M_carriedOf_55 ?_
    refine cx_ldiv X (by omega) (by omega) (by omega) (by omega) dc_M_carriedOf_58 ?_
    refine lv_lstore (lv' := [(7, .long (jL ((S 21 i h) / 10))), (5, .long (jL (cs_lf S i h))), (3, .long (jL (cs_over S i h))), (0, .ref (ad 20 0)), (1, .int (jI ((i : Int)))), (2, .int (jI ((h : Int))))]) X.1 X.2.1 dc_M_carriedOf_59 hl (by decide) rfl (fun ls hl => ?_)
    refine lv_lload X.1 X.2.1 dc_M_carriedOf_61 (lv_at hl 1 rfl) ?_
    refine lv_lload X.1 X.2.1 dc_M_carriedOf_63 (lv_at hl 0 rfl) ?_
    refine cx_lcmp_ge (tgt := 74) X (by omega) (by omega) (by omega) (by omega) dc_M_carriedOf_65 dc_M_carriedOf_66 (by decide) (fun c_2 => ?_) (fun c_2 => ?_)
    · refine lv_lload X.1 X.2.1 dc_M_carriedOf_74 (lv_at hl 0 rfl) ?_
      exact cx_lretN X hr hlk (by rw [cs_carry, if_neg (show ¬ 0 < cs_over S i h by omega)]; congr 2; split <;> omega) dc_M_carriedOf_76
    · refine lv_lload X.1 X.2.1 dc_M_carriedOf_69 (lv_at hl 1 rfl) ?_
      refine lv_goto (tgt := 76) X.1 X.2.1 dc_M_carriedOf_71 (by decide) ?_
      exact cx_lretN X hr hlk (by rw [cs_carry, if_neg (show ¬ 0 < cs_over S i h by omega)]; congr 2; split <;> omega) dc_M_carriedOf_76
  · refine lv_lload_n X.1 X.2.1 dc_M_carriedOf_13 rfl (lv_at hl 0 rfl) ?_
    refine lv_aload_n X.1 X.2.1 dc_M_carriedOf_14 rfl (lv_at hl 1 rfl) ?_
    refine cx_get (v := .int (jI (S 3 0 0))) X B (wM_20 u ad S sc) rfl uw_M 19 (by decide) gf_M_60 rfl dc_M_carriedOf_15 ?_
    refine cx_i2l X (by omega) (by omega) dc_M_carriedOf_18 ?_
    refine cx_lmul X dc_M_carriedOf_19 ?_
    refine lv_aload_n X.1 X.2.1 dc_M_carriedOf_20 rfl (lv_at hl 1 rfl) ?_
    refine cx_get (v := .int (jI (S 4 0 0))) X B (wM_20 u ad S sc) rfl uw_M 20 (by decide) gf_M_64 rfl dc_M_carriedOf_21 ?_
    refine cx_i2l X (by omega) (by omega) dc_M_carriedOf_24 ?_
    refine cx_ladd X dc_M_carriedOf_25 ?_
    refine cx_lconst (a := 1) X dc_M_carriedOf_26 (by decide +kernel) ?_
    refine cx_lsub X dc_M_carriedOf_27 ?_
    refine lv_aload_n X.1 X.2.1 dc_M_carriedOf_28 rfl (lv_at hl 1 rfl) ?_
    refine cx_get (v := .int (jI (S 4 0 0))) X B (wM_20 u ad S sc) rfl uw_M 20 (by decide) gf_M_64 rfl dc_M_carriedOf_29 ?_
    refine cx_i2l X (by omega) (by omega) dc_M_carriedOf_32 ?_
    refine cx_ldiv X (by omega) (by omega) (by omega) (by omega) dc_M_carriedOf_33 ?_
    refine cx_lneg X dc_M_carriedOf_34 ?_
    exact cx_lretN X hr hlk (by rw [cs_carry, if_pos (show 0 < cs_over S i h by omega)]) dc_M_carriedOf_35
set_option maxHeartbeats 4000000 in
set_option maxRecDepth 100000 in
theorem c_M_given (l : Launch) (u : cx_U) (ad : Nat → Nat → Nat) (S : cs_S) (sc : Nat → Nat → Int) (hI : cs_I S) (a b : Int) (a1 : -2147483648 ≤ a) (a2 : a ≤ 2147483647) (b1 : -2147483648 ≤ b) (b2 : b ≤ 2147483647) : cx_N l u mn_M_given bc_M_given 3 (some .long) 2 46 [.ref (ad 20 0), .int (jI (a)), .int (jI (b))] (wM u ad S sc) (.long (jL (cs_given S a b))) := by
  refine cx_N.of (by decide +kernel) (Nat.le_of_ble_eq_true rfl) ?_
  intro p e s m args below meth c ls A X hr hlk B hl
  have X : CallFix p m c bc_M_given 3 s args GW "CatchSharesModel" := X
  have hl : lv_has ls 3 [(0, .ref (ad 20 0)), (1, .int (jI (a))), (2, .int (jI (b)))] := hl
  have hI1 := hI.1
  refine lv_aload_n X.1 X.2.1 dc_M_given_0 rfl (lv_at hl 0 rfl) ?_
  refine lv_iload_n X.1 X.2.1 dc_M_given_1 rfl (lv_at hl 1 rfl) ?_
  refine cx_cVN (r := .int (jI (jB (0 ≤ a ∧ a < S 0 0 0)))) (As := [.int (jI (a))]) (rest := []) X B kc_M_isStock gm_M_97 (c_M_isStock l u ad S sc hI a (by omega) (by omega)) (fun _ _ _ h => h) (wM_20 u ad S sc) rfl rfl ⟨(Nat.le_of_ble_eq_true rfl), (Nat.le_of_ble_eq_true rfl)⟩ ⟨(Nat.le_of_ble_eq_true rfl), (Nat.le_of_ble_eq_true rfl)⟩ rfl hl.1 (Nat.le_of_ble_eq_true rfl) dc_M_given_2 rfl ?_
  refine cx_ifeqB (tgt := 30) X dc_M_given_5 (by decide) (fun c_1 => ?_) (fun c_1 => ?_)
  · refine cx_ldc2 (a := -1) X gk_M_109 (by decide +kernel) dc_M_given_30 ?_
    exact cx_lretN X hr hlk (by rw [cs_given, if_neg (by omega)]) dc_M_given_33
  · obtain ⟨i, rfl⟩ : ∃ i : Nat, a = (i : Int) := ⟨a.toNat, by omega⟩
    have hi : (i : Int) < S 0 0 0 := by omega
    refine lv_aload_n X.1 X.2.1 dc_M_given_8 rfl (lv_at hl 0 rfl) ?_
    refine lv_iload_n X.1 X.2.1 dc_M_given_9 rfl (lv_at hl 2 rfl) ?_
    refine cx_cVN (r := .int (jI (jB (0 ≤ b ∧ b < S 1 0 0)))) (As := [.int (jI (b))]) (rest := []) X B kc_M_isHolder gm_M_100 (c_M_isHolder l u ad S sc hI b (by omega) (by omega)) (fun _ _ _ h => h) (wM_20 u ad S sc) rfl rfl ⟨(Nat.le_of_ble_eq_true rfl), (Nat.le_of_ble_eq_true rfl)⟩ ⟨(Nat.le_of_ble_eq_true rfl), (Nat.le_of_ble_eq_true rfl)⟩ rfl hl.1 (Nat.le_of_ble_eq_true rfl) dc_M_given_10 rfl ?_
    refine cx_ifeqB (tgt := 30) X dc_M_given_13 (by decide) (fun c_2 => ?_) (fun c_2 => ?_)
    · refine cx_ldc2 (a := -1) X gk_M_109 (by decide +kernel) dc_M_given_30 ?_
      exact cx_lretN X hr hlk (by rw [cs_given, if_neg (by omega)]) dc_M_given_33
    · obtain ⟨h, rfl⟩ : ∃ h : Nat, b = (h : Int) := ⟨b.toNat, by omega⟩
      have hh : (h : Int) < S 1 0 0 := by omega
      refine lv_aload_n X.1 X.2.1 dc_M_given_16 rfl (lv_at hl 0 rfl) ?_
      refine cx_get (v := .ref (ad 32 0)) X B (wM_20 u ad S sc) rfl uw_M 13 (by decide) gf_M_45 rfl dc_M_given_17 ?_
      refine cx_bipush X dc_M_given_20 (by decide +kernel) ?_
      refine lv_iload_n X.1 X.2.1 dc_M_given_22 rfl (lv_at hl 1 rfl) ?_
      refine cx_imul X dc_M_given_23 ?_
      refine lv_iload_n X.1 X.2.1 dc_M_given_24 rfl (lv_at hl 2 rfl) ?_
      refine cx_iadd X dc_M_given_25 ?_
      refine cx_lald X B (wM_32 u ad S sc) ((12 * i) + h) (by omega) (by omega) (by decide) dc_M_given_26 ?_
      rw [show ((12 * i) + h) / 12 = i by omega, show ((12 * i) + h) % 12 = h by omega]
      refine lv_goto (tgt := 33) X.1 X.2.1 dc_M_given_27 (by decide) ?_
      exact cx_lretN X hr hlk (by rw [cs_given, if_pos (by omega)]; rfl) dc_M_given_33
set_option maxHeartbeats 4000000 in
set_option maxRecDepth 100000 in
theorem c_M_over (l : Launch) (u : cx_U) (ad : Nat → Nat → Nat) (S : cs_S) (sc : Nat → Nat → Int) (hI : cs_I S) (a b : Int) (a1 : -2147483648 ≤ a) (a2 : a ≤ 2147483647) (b1 : -2147483648 ≤ b) (b2 : b ≤ 2147483647) : cx_N l u mn_M_over bc_M_over 3 (some .long) 3 72 [.ref (ad 20 0), .int (jI (a)), .int (jI (b))] (wM u ad S sc) (.long (jL (cs_overQ S a b))) := by
  refine cx_N.of (by decide +kernel) (Nat.le_of_ble_eq_true rfl) ?_
  intro p e s m args below meth c ls A X hr hlk B hl
  have X : CallFix p m c bc_M_over 3 s args GW "CatchSharesModel" := X
  have hl : lv_has ls 3 [(0, .ref (ad 20 0)), (1, .int (jI (a))), (2, .int (jI (b)))] := hl
  have hI1 := hI.1
  refine lv_aload_n X.1 X.2.1 dc_M_over_0 rfl (lv_at hl 0 rfl) ?_
  refine lv_iload_n X.1 X.2.1 dc_M_over_1 rfl (lv_at hl 1 rfl) ?_
  refine cx_cVN (r := .int (jI (jB (0 ≤ a ∧ a < S 0 0 0)))) (As := [.int (jI (a))]) (rest := []) X B kc_M_isStock gm_M_97 (c_M_isStock l u ad S sc hI a (by omega) (by omega)) (fun _ _ _ h => h) (wM_20 u ad S sc) rfl rfl ⟨(Nat.le_of_ble_eq_true rfl), (Nat.le_of_ble_eq_true rfl)⟩ ⟨(Nat.le_of_ble_eq_true rfl), (Nat.le_of_ble_eq_true rfl)⟩ rfl hl.1 (Nat.le_of_ble_eq_true rfl) dc_M_over_2 rfl ?_
  refine cx_ifeqB (tgt := 25) X dc_M_over_5 (by decide) (fun c_1 => ?_) (fun c_1 => ?_)
  · refine cx_ldc2 (a := -1) X gk_M_109 (by decide +kernel) dc_M_over_25 ?_
    exact cx_lretN X hr hlk (by rw [cs_overQ, if_neg (by omega)]) dc_M_over_28
  · obtain ⟨i, rfl⟩ : ∃ i : Nat, a = (i : Int) := ⟨a.toNat, by omega⟩
    have hi : (i : Int) < S 0 0 0 := by omega
    refine lv_aload_n X.1 X.2.1 dc_M_over_8 rfl (lv_at hl 0 rfl) ?_
    refine lv_iload_n X.1 X.2.1 dc_M_over_9 rfl (lv_at hl 2 rfl) ?_
    refine cx_cVN (r := .int (jI (jB (0 ≤ b ∧ b < S 1 0 0)))) (As := [.int (jI (b))]) (rest := []) X B kc_M_isHolder gm_M_100 (c_M_isHolder l u ad S sc hI b (by omega) (by omega)) (fun _ _ _ h => h) (wM_20 u ad S sc) rfl rfl ⟨(Nat.le_of_ble_eq_true rfl), (Nat.le_of_ble_eq_true rfl)⟩ ⟨(Nat.le_of_ble_eq_true rfl), (Nat.le_of_ble_eq_true rfl)⟩ rfl hl.1 (Nat.le_of_ble_eq_true rfl) dc_M_over_10 rfl ?_
    refine cx_ifeqB (tgt := 25) X dc_M_over_13 (by decide) (fun c_2 => ?_) (fun c_2 => ?_)
    · refine cx_ldc2 (a := -1) X gk_M_109 (by decide +kernel) dc_M_over_25 ?_
      exact cx_lretN X hr hlk (by rw [cs_overQ, if_neg (by omega)]) dc_M_over_28
    · obtain ⟨h, rfl⟩ : ∃ h : Nat, b = (h : Int) := ⟨b.toNat, by omega⟩
      have hh : (h : Int) < S 1 0 0 := by omega
      refine lv_aload_n X.1 X.2.1 dc_M_over_16 rfl (lv_at hl 0 rfl) ?_
      refine lv_iload_n X.1 X.2.1 dc_M_over_17 rfl (lv_at hl 1 rfl) ?_
      refine lv_iload_n X.1 X.2.1 dc_M_over_18 rfl (lv_at hl 2 rfl) ?_
      refine cx_cVN (r := .long (jL (cs_over S i h))) (As := [.int (jI ((i : Int))), .int (jI ((h : Int)))]) (rest := []) X B kc_M_overOf gm_M_128 (c_M_overOf l u ad S sc hI i h hi (by omega)) (fun _ _ _ h => h) (wM_20 u ad S sc) rfl rfl ⟨(Nat.le_of_ble_eq_true rfl), (Nat.le_of_ble_eq_true rfl)⟩ ⟨(Nat.le_of_ble_eq_true rfl), (Nat.le_of_ble_eq_true rfl)⟩ rfl hl.1 (Nat.le_of_ble_eq_true rfl) dc_M_over_19 rfl ?_
      refine lv_goto (tgt := 28) X.1 X.2.1 dc_M_over_22 (by decide) ?_
      exact cx_lretN X hr hlk (by rw [cs_overQ, if_pos (by omega)]; rfl) dc_M_over_28
set_option maxHeartbeats 4000000 in
set_option maxRecDepth 100000 in
theorem c_M_carried (l : Launch) (u : cx_U) (ad : Nat → Nat → Nat) (S : cs_S) (sc : Nat → Nat → Int) (hI : cs_I S) (a b : Int) (a1 : -2147483648 ≤ a) (a2 : a ≤ 2147483647) (b1 : -2147483648 ≤ b) (b2 : b ≤ 2147483647) : cx_N l u mn_M_carried bc_M_carried 3 (some .long) 4 100 [.ref (ad 20 0), .int (jI (a)), .int (jI (b))] (wM u ad S sc) (.long (jL (cs_carryQ S a b))) := by
  refine cx_N.of (by decide +kernel) (Nat.le_of_ble_eq_true rfl) ?_
  intro p e s m args below meth c ls A X hr hlk B hl
  have X : CallFix p m c bc_M_carried 3 s args GW "CatchSharesModel" := X
  have hl : lv_has ls 3 [(0, .ref (ad 20 0)), (1, .int (jI (a))), (2, .int (jI (b)))] := hl
  have hI1 := hI.1
  refine lv_aload_n X.1 X.2.1 dc_M_carried_0 rfl (lv_at hl 0 rfl) ?_
  refine lv_iload_n X.1 X.2.1 dc_M_carried_1 rfl (lv_at hl 1 rfl) ?_
  refine cx_cVN (r := .int (jI (jB (0 ≤ a ∧ a < S 0 0 0)))) (As := [.int (jI (a))]) (rest := []) X B kc_M_isStock gm_M_97 (c_M_isStock l u ad S sc hI a (by omega) (by omega)) (fun _ _ _ h => h) (wM_20 u ad S sc) rfl rfl ⟨(Nat.le_of_ble_eq_true rfl), (Nat.le_of_ble_eq_true rfl)⟩ ⟨(Nat.le_of_ble_eq_true rfl), (Nat.le_of_ble_eq_true rfl)⟩ rfl hl.1 (Nat.le_of_ble_eq_true rfl) dc_M_carried_2 rfl ?_
  refine cx_ifeqB (tgt := 25) X dc_M_carried_5 (by decide) (fun c_1 => ?_) (fun c_1 => ?_)
  · refine cx_ldc2 (a := -1) X gk_M_109 (by decide +kernel) dc_M_carried_25 ?_
    exact cx_lretN X hr hlk (by rw [cs_carryQ, if_neg (by omega)]) dc_M_carried_28
  · obtain ⟨i, rfl⟩ : ∃ i : Nat, a = (i : Int) := ⟨a.toNat, by omega⟩
    have hi : (i : Int) < S 0 0 0 := by omega
    refine lv_aload_n X.1 X.2.1 dc_M_carried_8 rfl (lv_at hl 0 rfl) ?_
    refine lv_iload_n X.1 X.2.1 dc_M_carried_9 rfl (lv_at hl 2 rfl) ?_
    refine cx_cVN (r := .int (jI (jB (0 ≤ b ∧ b < S 1 0 0)))) (As := [.int (jI (b))]) (rest := []) X B kc_M_isHolder gm_M_100 (c_M_isHolder l u ad S sc hI b (by omega) (by omega)) (fun _ _ _ h => h) (wM_20 u ad S sc) rfl rfl ⟨(Nat.le_of_ble_eq_true rfl), (Nat.le_of_ble_eq_true rfl)⟩ ⟨(Nat.le_of_ble_eq_true rfl), (Nat.le_of_ble_eq_true rfl)⟩ rfl hl.1 (Nat.le_of_ble_eq_true rfl) dc_M_carried_10 rfl ?_
    refine cx_ifeqB (tgt := 25) X dc_M_carried_13 (by decide) (fun c_2 => ?_) (fun c_2 => ?_)
    · refine cx_ldc2 (a := -1) X gk_M_109 (by decide +kernel) dc_M_carried_25 ?_
      exact cx_lretN X hr hlk (by rw [cs_carryQ, if_neg (by omega)]) dc_M_carried_28
    · obtain ⟨h, rfl⟩ : ∃ h : Nat, b = (h : Int) := ⟨b.toNat, by omega⟩
      have hh : (h : Int) < S 1 0 0 := by omega
      refine lv_aload_n X.1 X.2.1 dc_M_carried_16 rfl (lv_at hl 0 rfl) ?_
      refine lv_iload_n X.1 X.2.1 dc_M_carried_17 rfl (lv_at hl 1 rfl) ?_
      refine lv_iload_n X.1 X.2.1 dc_M_carried_18 rfl (lv_at hl 2 rfl) ?_
      refine cx_cVN (r := .long (jL (cs_carry S i h))) (As := [.int (jI ((i : Int))), .int (jI ((h : Int)))]) (rest := []) X B kc_M_carriedOf gm_M_111 (c_M_carriedOf l u ad S sc hI i h hi (by omega)) (fun _ _ _ h => h) (wM_20 u ad S sc) rfl rfl ⟨(Nat.le_of_ble_eq_true rfl), (Nat.le_of_ble_eq_true rfl)⟩ ⟨(Nat.le_of_ble_eq_true rfl), (Nat.le_of_ble_eq_true rfl)⟩ rfl hl.1 (Nat.le_of_ble_eq_true rfl) dc_M_carried_19 rfl ?_
      refine lv_goto (tgt := 28) X.1 X.2.1 dc_M_carried_22 (by decide) ?_
      exact cx_lretN X hr hlk (by rw [cs_carryQ, if_pos (by omega)]; rfl) dc_M_carried_28
set_option maxHeartbeats 4000000 in
set_option maxRecDepth 100000 in
theorem c_M_left (l : Launch) (u : cx_U) (ad : Nat → Nat → Nat) (S : cs_S) (sc : Nat → Nat → Int) (hI : cs_I S) (a b : Int) (a1 : -2147483648 ≤ a) (a2 : a ≤ 2147483647) (b1 : -2147483648 ≤ b) (b2 : b ≤ 2147483647) (on : Int) (o1 : -2147483648 ≤ on) (o2 : on ≤ 2147483647) : cx_N l u mn_M_left bc_M_left 4 (some .long) 2 46 [.ref (ad 20 0), .int (jI (a)), .int (jI (b)), .int (jI (on))] (wM u ad S sc) (.long (jL (cs_leftQ S a b on))) := by
  refine cx_N.of (by decide +kernel) (Nat.le_of_ble_eq_true rfl) ?_
  intro p e s m args below meth c ls A X hr hlk B hl
  have X : CallFix p m c bc_M_left 4 s args GW "CatchSharesModel" := X
  have hl : lv_has ls 4 [(0, .ref (ad 20 0)), (1, .int (jI (a))), (2, .int (jI (b))), (3, .int (jI (on)))] := hl
  have hI1 := hI.1
  refine lv_aload_n X.1 X.2.1 dc_M_left_0 rfl (lv_at hl 0 rfl) ?_
  refine lv_iload_n X.1 X.2.1 dc_M_left_1 rfl (lv_at hl 1 rfl) ?_
  refine cx_cVN (r := .int (jI (jB (0 ≤ a ∧ a < S 0 0 0)))) (As := [.int (jI (a))]) (rest := []) X B kc_M_isStock gm_M_97 (c_M_isStock l u ad S sc hI a (by omega) (by omega)) (fun _ _ _ h => h) (wM_20 u ad S sc) rfl rfl ⟨(Nat.le_of_ble_eq_true rfl), (Nat.le_of_ble_eq_true rfl)⟩ ⟨(Nat.le_of_ble_eq_true rfl), (Nat.le_of_ble_eq_true rfl)⟩ rfl hl.1 (Nat.le_of_ble_eq_true rfl) dc_M_left_2 rfl ?_
  refine cx_ifeqB (tgt := 26) X dc_M_left_5 (by decide) (fun c_1 => ?_) (fun c_1 => ?_)
  · refine cx_ldc2 (a := -1) X gk_M_109 (by decide +kernel) dc_M_left_26 ?_
    exact cx_lretN X hr hlk (by rw [cs_leftQ, if_neg (by omega)]) dc_M_left_29
  · obtain ⟨i, rfl⟩ : ∃ i : Nat, a = (i : Int) := ⟨a.toNat, by omega⟩
    have hi : (i : Int) < S 0 0 0 := by omega
    refine lv_aload_n X.1 X.2.1 dc_M_left_8 rfl (lv_at hl 0 rfl) ?_
    refine lv_iload_n X.1 X.2.1 dc_M_left_9 rfl (lv_at hl 2 rfl) ?_
    refine cx_cVN (r := .int (jI (jB (0 ≤ b ∧ b < S 1 0 0)))) (As := [.int (jI (b))]) (rest := []) X B kc_M_isHolder gm_M_100 (c_M_isHolder l u ad S sc hI b (by omega) (by omega)) (fun _ _ _ h => h) (wM_20 u ad S sc) rfl rfl ⟨(Nat.le_of_ble_eq_true rfl), (Nat.le_of_ble_eq_true rfl)⟩ ⟨(Nat.le_of_ble_eq_true rfl), (Nat.le_of_ble_eq_true rfl)⟩ rfl hl.1 (Nat.le_of_ble_eq_true rfl) dc_M_left_10 rfl ?_
    refine cx_ifeqB (tgt := 26) X dc_M_left_13 (by decide) (fun c_2 => ?_) (fun c_2 => ?_)
    · refine cx_ldc2 (a := -1) X gk_M_109 (by decide +kernel) dc_M_left_26 ?_
      exact cx_lretN X hr hlk (by rw [cs_leftQ, if_neg (by omega)]) dc_M_left_29
    · obtain ⟨h, rfl⟩ : ∃ h : Nat, b = (h : Int) := ⟨b.toNat, by omega⟩
      have hh : (h : Int) < S 1 0 0 := by omega
      refine lv_aload_n X.1 X.2.1 dc_M_left_16 rfl (lv_at hl 0 rfl) ?_
      refine lv_iload_n X.1 X.2.1 dc_M_left_17 rfl (lv_at hl 1 rfl) ?_
      refine lv_iload_n X.1 X.2.1 dc_M_left_18 rfl (lv_at hl 2 rfl) ?_
      refine lv_iload_n X.1 X.2.1 dc_M_left_19 rfl (lv_at hl 3 rfl) ?_
      refine cx_cVN (r := .long (jL (cs_left S i h on))) (As := [.int (jI ((i : Int))), .int (jI ((h : Int))), .int (jI (on))]) (rest := []) X B kc_M_leftOn gm_M_121 (c_M_leftOn l u ad S sc hI i h hi (by omega) on (by omega) (by omega)) (fun _ _ _ h => h) (wM_20 u ad S sc) rfl rfl ⟨(Nat.le_of_ble_eq_true rfl), (Nat.le_of_ble_eq_true rfl)⟩ ⟨(Nat.le_of_ble_eq_true rfl), (Nat.le_of_ble_eq_true rfl)⟩ rfl hl.1 (Nat.le_of_ble_eq_true rfl) dc_M_left_20 rfl ?_
      refine lv_goto (tgt := 29) X.1 X.2.1 dc_M_left_23 (by decide) ?_
      exact cx_lretN X hr hlk (by rw [cs_leftQ, if_pos (by omega)]; rfl) dc_M_left_29
set_option maxHeartbeats 4000000 in
set_option maxRecDepth 100000 in
theorem c_M_pooled (l : Launch) (u : cx_U) (ad : Nat → Nat → Nat) (S : cs_S) (sc : Nat → Nat → Int) (hI : cs_I S) (a b : Int) (a1 : -2147483648 ≤ a) (a2 : a ≤ 2147483647) (b1 : -2147483648 ≤ b) (b2 : b ≤ 2147483647) : cx_N l u mn_M_pooled bc_M_pooled 6 (some .long) 2 48 [.ref (ad 20 0), .int (jI (a)), .int (jI (b))] (wM u ad S sc) (.long (jL (cs_poolQ S a b))) := by
  refine cx_N.of (by decide +kernel) (Nat.le_of_ble_eq_true rfl) ?_
  intro p e s m args below meth c ls A X hr hlk B hl
  have X : CallFix p m c bc_M_pooled 6 s args GW "CatchSharesModel" := X
  have hl : lv_has ls 6 [(0, .ref (ad 20 0)), (1, .int (jI (a))), (2, .int (jI (b)))] := hl
  have hI1 := hI.1
  have hI2 := hI.2.1
  refine lv_aload_n X.1 X.2.1 dc_M_pooled_0 rfl (lv_at hl 0 rfl) ?_
  refine lv_iload_n X.1 X.2.1 dc_M_pooled_1 rfl (lv_at hl 1 rfl) ?_
  refine cx_cVN (r := .int (jI (jB (0 ≤ a ∧ a < S 0 0 0)))) (As := [.int (jI (a))]) (rest := []) X B kc_M_isStock gm_M_97 (c_M_isStock l u ad S sc hI a (by omega) (by omega)) (fun _ _ _ h => h) (wM_20 u ad S sc) rfl rfl ⟨(Nat.le_of_ble_eq_true rfl), (Nat.le_of_ble_eq_true rfl)⟩ ⟨(Nat.le_of_ble_eq_true rfl), (Nat.le_of_ble_eq_true rfl)⟩ rfl hl.1 (Nat.le_of_ble_eq_true rfl) dc_M_pooled_2 rfl ?_
  refine cx_ifeqB (tgt := 20) X dc_M_pooled_5 (by decide) (fun c_1 => ?_) (fun c_1 => ?_)
  · refine cx_ldc2 (a := -1) X gk_M_109 (by decide +kernel) dc_M_pooled_20 ?_
    exact cx_lretN X hr hlk (by rw [cs_poolQ, if_neg (by omega)]) dc_M_pooled_23
  · obtain ⟨i, rfl⟩ : ∃ i : Nat, a = (i : Int) := ⟨a.toNat, by omega⟩
    have hi : (i : Int) < S 0 0 0 := by omega
    refine lv_iload_n X.1 X.2.1 dc_M_pooled_8 rfl (lv_at hl 2 rfl) ?_
    refine cx_i2l X (by omega) (by omega) dc_M_pooled_9 ?_
    refine cx_lconst (a := 0) X dc_M_pooled_10 (by decide +kernel) ?_
    refine cx_ldc2 (a := 3) X gk_M_140 (by decide +kernel) dc_M_pooled_11 ?_
    refine cx_cSN (r := .int (jI (jB (0 ≤ b ∧ b ≤ 3)))) (As := [.long (jL (b)), .long (jL (0)), .long (jL (3))]) (rest := []) X B kc_M_in gm_M_82 (c_M_in l u _ b 0 3 (by omega) (by omega) (by omega) (by omega) (by omega) (by omega)) (fun _ _ _ h => h) ⟨(Nat.le_of_ble_eq_true rfl), (Nat.le_of_ble_eq_true rfl)⟩ ⟨(Nat.le_of_ble_eq_true rfl), (Nat.le_of_ble_eq_true rfl)⟩ rfl hl.1 (Nat.le_of_ble_eq_true rfl) dc_M_pooled_14 rfl ?_
    refine cx_ifneB (tgt := 24) X dc_M_pooled_17 (by decide) (fun c_2 => ?_) (fun c_2 => ?_)
    · refine cx_lconst (a := 0) X dc_M_pooled_24 (by decide +kernel) ?_
      refine lv_lstore_n (lv' := [(3, .long (jL (0))), (0, .ref (ad 20 0)), (1, .int (jI ((i : Int)))), (2, .int (jI (b)))]) X.1 X.2.1 dc_M_pooled_25 rfl hl (by decide) rfl (fun ls hl => ?_)
      refine cx_iconst X dc_M_pooled_26 ?_
      refine lv_istore (lv' := [(5, .int (jI (0))), (3, .long (jL (0))), (0, .ref (ad 20 0)), (1, .int (jI ((i : Int)))), (2, .int (jI (b)))]) X.1 X.2.1 dc_M_pooled_27 hl (by decide) rfl (fun ls hl => ?_)
      have lp_3 : ∀ (n_4 h : Nat) (ls : Array Slot) , (h : Int) ≤ S 1 0 0 → S 1 0 0 - (h : Int) < (n_4 : Int) → lv_has ls 6 [(0, .ref (ad 20 0)), (1, .int (jI ((i : Int)))), (2, .int (jI (b))), (3, .long (jL (cs_pool S i b h))), (5, .int (jI ((h : Int))))] → W p l e (cx_R 2 48 0 0) s m args below meth c s.heap [] 0 0 (MQ below (fun _ st_ oc_ t_ => oc_ = .returned (some (.long (jL (cs_poolQ S (i : Int) b)))) ∧ t_.heap = st_.heap) args s 0 0 (fun _ => False)) (F0 m 29 ls []) := by
        intro n_4
        induction n_4 with
        | zero => intro h ls  hi_6 hn_7; exfalso; omega
        | succ n_4 ih_5 =>
          intro h ls  hi_6 hn_7 hl
          have hI2 := hI2 h
          refine lv_iload X.1 X.2.1 dc_M_pooled_29 (lv_at hl 4 rfl) ?_
          refine lv_aload_n X.1 X.2.1 dc_M_pooled_31 rfl (lv_at hl 0 rfl) ?_
          refine cx_get (v := .int (jI (S 1 0 0))) X B (wM_20 u ad S sc) rfl uw_M 9 (by decide) gf_M_86 rfl dc_M_pooled_32 ?_
          refine cx_icmp_ge (tgt := 69) X (by omega) (by omega) (by omega) (by omega) dc_M_pooled_35 (by decide) (fun c_8 => ?_) (fun c_8 => ?_)
          · refine lv_lload_n X.1 X.2.1 dc_M_pooled_69 rfl (lv_at hl 3 rfl) ?_
            exact cx_lretN X hr hlk (by rw [cs_poolQ, if_pos (by omega), show (S 1 0 0).toNat = h by omega]; rfl) dc_M_pooled_70
          · refine lv_aload_n X.1 X.2.1 dc_M_pooled_38 rfl (lv_at hl 0 rfl) ?_
            refine cx_get (v := .ref (ad 30 0)) X B (wM_20 u ad S sc) rfl uw_M 11 (by decide) gf_M_39 rfl dc_M_pooled_39 ?_
            refine lv_iload X.1 X.2.1 dc_M_pooled_42 (lv_at hl 4 rfl) ?_
            refine cx_iald X B (wM_30 u ad S sc) (h) (by omega) (by omega) (by decide) dc_M_pooled_44 ?_
            refine lv_iload_n X.1 X.2.1 dc_M_pooled_45 rfl (lv_at hl 2 rfl) ?_
            refine cx_icmp_ne (tgt := 61) X (by omega) (by omega) (by omega) (by omega) dc_M_pooled_46 (by decide) (fun c_9 => ?_) (fun c_9 => ?_)
            · refine lv_lload_n X.1 X.2.1 dc_M_pooled_61 rfl (lv_at hl 3 rfl) ?_
              refine lv_lstore_n (lv' := [(3, .long (jL (cs_pool S i b h))), (0, .ref (ad 20 0)), (1, .int (jI ((i : Int)))), (2, .int (jI (b))), (5, .int (jI ((h : Int))))]) X.1 X.2.1 dc_M_pooled_62 rfl hl (by decide) rfl (fun ls hl => ?_)
              refine lv_iinc (v := jI ((h : Int) + 1)) (lv' := [(5, .int (jI ((h : Int) + 1))), (3, .long (jL (cs_pool S i b h))), (0, .ref (ad 20 0)), (1, .int (jI ((i : Int)))), (2, .int (jI (b)))]) X.1 X.2.1 dc_M_pooled_63 hl (k := 4) rfl (jI_add _ _) (by decide) rfl (fun ls hl => ?_)
              refine lv_goto (tgt := 29) X.1 X.2.1 dc_M_pooled_66 (by decide) ?_
              have qq : cs_pool S i b (h + 1) = cs_pool S i b h := by rw [cs_pool_s, if_neg (by omega)]; omega
              exact ih_5 (h + 1) ls  (by omega) (by omega) (by rw [qq]; exact lv_sub hl [2, 3, 4, 1, 0] rfl)
            · refine lv_lload_n X.1 X.2.1 dc_M_pooled_49 rfl (lv_at hl 3 rfl) ?_
              refine lv_aload_n X.1 X.2.1 dc_M_pooled_50 rfl (lv_at hl 0 rfl) ?_
              refine lv_iload_n X.1 X.2.1 dc_M_pooled_51 rfl (lv_at hl 1 rfl) ?_
              refine lv_iload X.1 X.2.1 dc_M_pooled_52 (lv_at hl 4 rfl) ?_
              refine cx_cVN (r := .long (jL (cs_lf S i h))) (As := [.int (jI ((i : Int))), .int (jI ((h : Int)))]) (rest := [.long (jL (cs_pool S i b h))]) X B kc_M_leftOf gm_M_125 (c_M_leftOf l u ad S sc hI i h hi (by omega)) (fun _ _ _ h => h) (wM_20 u ad S sc) rfl rfl ⟨(Nat.le_of_ble_eq_true rfl), (Nat.le_of_ble_eq_true rfl)⟩ ⟨(Nat.le_of_ble_eq_true rfl), (Nat.le_of_ble_eq_true rfl)⟩ rfl hl.1 (Nat.le_of_ble_eq_true rfl) dc_M_pooled_54 rfl ?_
              refine cx_ladd X dc_M_pooled_57 ?_
              refine lv_goto (tgt := 62) X.1 X.2.1 dc_M_pooled_58 (by decide) ?_
              refine lv_lstore_n (lv' := [(3, .long (jL ((cs_pool S i b h) + (cs_lf S i h)))), (0, .ref (ad 20 0)), (1, .int (jI ((i : Int)))), (2, .int (jI (b))), (5, .int (jI ((h : Int))))]) X.1 X.2.1 dc_M_pooled_62 rfl hl (by decide) rfl (fun ls hl => ?_)
              refine lv_iinc (v := jI ((h : Int) + 1)) (lv' := [(5, .int (jI ((h : Int) + 1))), (3, .long (jL ((cs_pool S i b h) + (cs_lf S i h)))), (0, .ref (ad 20 0)), (1, .int (jI ((i : Int)))), (2, .int (jI (b)))]) X.1 X.2.1 dc_M_pooled_63 hl (k := 4) rfl (jI_add _ _) (by decide) rfl (fun ls hl => ?_)
              refine lv_goto (tgt := 29) X.1 X.2.1 dc_M_pooled_66 (by decide) ?_
              have qq : cs_pool S i b (h + 1) = (cs_pool S i b h) + (cs_lf S i h) := by rw [cs_pool_s, if_pos (by omega)]
              exact ih_5 (h + 1) ls  (by omega) (by omega) (by rw [qq]; exact lv_sub hl [2, 3, 4, 1, 0] rfl)
      exact lp_3 ((S 1 0 0 : Int).toNat + 1) 0 ls  (by omega) (by omega) (by  exact lv_sub hl [2, 3, 4, 1, 0] rfl)
    · refine cx_ldc2 (a := -1) X gk_M_109 (by decide +kernel) dc_M_pooled_20 ?_
      exact cx_lretN X hr hlk (by rw [cs_poolQ, if_neg (by omega)]) dc_M_pooled_23
set_option maxHeartbeats 4000000 in
set_option maxRecDepth 100000 in
theorem c_M_closes (l : Launch) (u : cx_U) (ad : Nat → Nat → Nat) (S : cs_S) (sc : Nat → Nat → Int) (hI : cs_I S) (a r : Int) (a1 : -2147483648 ≤ a) (a2 : a ≤ 2147483647) (r1 : -9223372036854775808 ≤ r) (r2 : r ≤ 9223372036854775807) : cx_N l u mn_M_closes bc_M_closes 9 (some .long) 2 48 [.ref (ad 20 0), .int (jI (a)), .long (jL (r))] (wM u ad S sc) (.long (jL (cs_closeQ S a r))) := by
  refine cx_N.of (by decide +kernel) (Nat.le_of_ble_eq_true rfl) ?_
  intro p e s m args below meth c ls A X hr hlk B hl
  have X : CallFix p m c bc_M_closes 9 s args GW "CatchSharesModel" := X
  have hl : lv_has ls 9 [(0, .ref (ad 20 0)), (1, .int (jI (a))), (2, .long (jL (r)))] := hl
  have hI1 := hI.1
  have hI5 := hI.2.2.2.2.1
  refine lv_aload_n X.1 X.2.1 dc_M_closes_0 rfl (lv_at hl 0 rfl) ?_
  refine lv_iload_n X.1 X.2.1 dc_M_closes_1 rfl (lv_at hl 1 rfl) ?_
  refine cx_cVN (r := .int (jI (jB (0 ≤ a ∧ a < S 0 0 0)))) (As := [.int (jI (a))]) (rest := []) X B kc_M_isStock gm_M_97 (c_M_isStock l u ad S sc hI a (by omega) (by omega)) (fun _ _ _ h => h) (wM_20 u ad S sc) rfl rfl ⟨(Nat.le_of_ble_eq_true rfl), (Nat.le_of_ble_eq_true rfl)⟩ ⟨(Nat.le_of_ble_eq_true rfl), (Nat.le_of_ble_eq_true rfl)⟩ rfl hl.1 (Nat.le_of_ble_eq_true rfl) dc_M_closes_2 rfl ?_
  refine cx_ifeqB (tgt := 28) X dc_M_closes_5 (by decide) (fun c_1 => ?_) (fun c_1 => ?_)
  · refine cx_ldc2 (a := -1) X gk_M_109 (by decide +kernel) dc_M_closes_28 ?_
    exact cx_lretN X hr hlk (by rw [cs_closeQ, if_neg (by omega)]) dc_M_closes_31
  · obtain ⟨i, rfl⟩ : ∃ i : Nat, a = (i : Int) := ⟨a.toNat, by omega⟩
    have hi : (i : Int) < S 0 0 0 := by omega
    refine lv_aload_n X.1 X.2.1 dc_M_closes_8 rfl (lv_at hl 0 rfl) ?_
    refine cx_get (v := .ref (ad 24 0)) X B (wM_20 u ad S sc) rfl uw_M 4 (by decide) gf_M_20 rfl dc_M_closes_9 ?_
    refine lv_iload_n X.1 X.2.1 dc_M_closes_12 rfl (lv_at hl 1 rfl) ?_
    refine cx_zald X B (wM_24 u ad S sc) (i) (by omega) (by omega) (by decide) dc_M_closes_13 ?_
    have r_2 := hI5 i
    refine cx_if_eq (tgt := 28) X (by omega) (by omega) dc_M_closes_14 (by decide) (fun c_3 => ?_) (fun c_3 => ?_)
    · refine cx_ldc2 (a := -1) X gk_M_109 (by decide +kernel) dc_M_closes_28 ?_
      exact cx_lretN X hr hlk (by rw [cs_closeQ, if_neg (by rw [cs_nn]; omega)]) dc_M_closes_31
    · refine lv_lload_n X.1 X.2.1 dc_M_closes_17 rfl (lv_at hl 2 rfl) ?_
      refine cx_lconst (a := 1) X dc_M_closes_18 (by decide +kernel) ?_
      refine cx_ldc2 (a := 1000000000) X gk_M_91 (by decide +kernel) dc_M_closes_19 ?_
      refine cx_cSN (r := .int (jI (jB (1 ≤ r ∧ r ≤ 1000000000)))) (As := [.long (jL (r)), .long (jL (1)), .long (jL (1000000000))]) (rest := []) X B kc_M_in gm_M_82 (c_M_in l u _ r 1 1000000000 (by omega) (by omega) (by omega) (by omega) (by omega) (by omega)) (fun _ _ _ h => h) ⟨(Nat.le_of_ble_eq_true rfl), (Nat.le_of_ble_eq_true rfl)⟩ ⟨(Nat.le_of_ble_eq_true rfl), (Nat.le_of_ble_eq_true rfl)⟩ rfl hl.1 (Nat.le_of_ble_eq_true rfl) dc_M_closes_22 rfl ?_
      refine cx_ifneB (tgt := 32) X dc_M_closes_25 (by decide) (fun c_4 => ?_) (fun c_4 => ?_)
      · refine cx_lconst (a := 0) X dc_M_closes_32 (by decide +kernel) ?_
        refine lv_lstore (lv' := [(4, .long (jL (0))), (0, .ref (ad 20 0)), (1, .int (jI ((i : Int)))), (2, .long (jL (r)))]) X.1 X.2.1 dc_M_closes_33 hl (by decide) rfl (fun ls hl => ?_)
        refine cx_iconst X dc_M_closes_35 ?_
        refine lv_istore (lv' := [(6, .int (jI (0))), (4, .long (jL (0))), (0, .ref (ad 20 0)), (1, .int (jI ((i : Int)))), (2, .long (jL (r)))]) X.1 X.2.1 dc_M_closes_36 hl (by decide) rfl (fun ls hl => ?_)
        have lp_5 : ∀ (n_6 h : Nat) (ls : Array Slot) , (h : Int) ≤ S 1 0 0 → S 1 0 0 - (h : Int) < (n_6 : Int) → lv_has ls 9 [(0, .ref (ad 20 0)), (1, .int (jI ((i : Int)))), (2, .long (jL (r))), (4, .long (jL (cs_pos S i h))), (6, .int (jI ((h : Int))))] → W p l e (cx_R 2 48 0 0) s m args below meth c s.heap [] 0 0 (MQ below (fun _ st_ oc_ t_ => oc_ = .returned (some (.long (jL (cs_closeQ S (i : Int) r)))) ∧ t_.heap = st_.heap) args s 0 0 (fun _ => False)) (F0 m 38 ls []) := by
          intro n_6
          induction n_6 with
          | zero => intro h ls  hi_8 hn_9; exfalso; omega
          | succ n_6 ih_7 =>
            intro h ls  hi_8 hn_9 hl
            have hI6 := cs_pos_b hI i h
            refine lv_iload X.1 X.2.1 dc_M_closes_38 (lv_at hl 4 rfl) ?_
            refine lv_aload_n X.1 X.2.1 dc_M_closes_40 rfl (lv_at hl 0 rfl) ?_
            refine cx_get (v := .int (jI (S 1 0 0))) X B (wM_20 u ad S sc) rfl uw_M 9 (by decide) gf_M_86 rfl dc_M_closes_41 ?_
            refine cx_icmp_ge (tgt := 81) X (by omega) (by omega) (by omega) (by omega) dc_M_closes_44 (by decide) (fun c_10 => ?_) (fun c_10 => ?_)
            · refine lv_lload X.1 X.2.1 dc_M_closes_81 (lv_at hl 3 rfl) ?_
              refine lv_lload_n X.1 X.2.1 dc_M_closes_83 rfl (lv_at hl 2 rfl) ?_
              refine cx_ladd X dc_M_closes_84 ?_
              refine cx_lconst (a := 1) X dc_M_closes_85 (by decide +kernel) ?_
              refine cx_lsub X dc_M_closes_86 ?_
              refine lv_lload_n X.1 X.2.1 dc_M_closes_87 rfl (lv_at hl 2 rfl) ?_
              refine cx_ldiv X (by omega) (by omega) (by omega) (by omega) dc_M_closes_88 ?_
              exact cx_lretN X hr hlk (by rw [cs_closeQ, if_pos (by rw [cs_nn]; omega), show (S 1 0 0).toNat = h by omega]; rfl) dc_M_closes_89
            · refine lv_aload_n X.1 X.2.1 dc_M_closes_47 rfl (lv_at hl 0 rfl) ?_
              refine lv_iload_n X.1 X.2.1 dc_M_closes_48 rfl (lv_at hl 1 rfl) ?_
              refine lv_iload X.1 X.2.1 dc_M_closes_49 (lv_at hl 4 rfl) ?_
              refine cx_cVN (r := .long (jL (cs_lf S i h))) (As := [.int (jI ((i : Int))), .int (jI ((h : Int)))]) (rest := []) X B kc_M_leftOf gm_M_125 (c_M_leftOf l u ad S sc hI i h hi (by omega)) (fun _ _ _ h => h) (wM_20 u ad S sc) rfl rfl ⟨(Nat.le_of_ble_eq_true rfl), (Nat.le_of_ble_eq_true rfl)⟩ ⟨(Nat.le_of_ble_eq_true rfl), (Nat.le_of_ble_eq_true rfl)⟩ rfl hl.1 (Nat.le_of_ble_eq_true rfl) dc_M_closes_51 rfl ?_
              have r_11 := cs_lf_b hI i h
              refine lv_lstore (lv' := [(7, .long (jL (cs_lf S i h))), (0, .ref (ad 20 0)), (1, .int (jI ((i : Int)))), (2, .long (jL (r))), (4, .long (jL (cs_pos S i h))), (6, .int (jI ((h : Int))))]) X.1 X.2.1 dc_M_closes_54 hl (by decide) rfl (fun ls hl => ?_)
              refine lv_lload X.1 X.2.1 dc_M_closes_56 (lv_at hl 0 rfl) ?_
              refine cx_lconst (a := 0) X dc_M_closes_58 (by decide +kernel) ?_
              refine cx_lcmp_le (tgt := 71) X (by omega) (by omega) (by omega) (by omega) dc_M_closes_59 dc_M_closes_60 (by decide) (fun c_12 => ?_) (fun c_12 => ?_)
              · refine lv_lload X.1 X.2.1 dc_M_closes_71 (lv_at hl 4 rfl) ?_
                refine lv_lstore (lv' := [(4, .long (jL (cs_pos S i h))), (7, .long (jL (cs_lf S i h))), (0, .ref (ad 20 0)), (1, .int (jI ((i : Int)))), (2, .long (jL (r))), (6, .int (jI ((h : Int))))]) X.1 X.2.1 dc_M_closes_73 hl (by decide) rfl (fun ls hl => ?_)
                refine lv_iinc (v := jI ((h : Int) + 1)) (lv' := [(6, .int (jI ((h : Int) + 1))), (4, .long (jL (cs_pos S i h))), (7, .long (jL (cs_lf S i h))), (0, .ref (ad 20 0)), (1, .int (jI ((i : Int)))), (2, .long (jL (r)))]) X.1 X.2.1 dc_M_closes_75 hl (k := 5) rfl (jI_add _ _) (by decide) rfl (fun ls hl => ?_)
                refine lv_goto (tgt := 38) X.1 X.2.1 dc_M_closes_78 (by decide) ?_
                have qq : cs_pos S i (h + 1) = cs_pos S i h := by rw [cs_pos_s]; split <;> omega
                exact ih_7 (h + 1) ls  (by omega) (by omega) (by rw [qq]; exact lv_sub hl [3, 4, 5, 1, 0] rfl)
              · refine lv_lload X.1 X.2.1 dc_M_closes_63 (lv_at hl 4 rfl) ?_
                refine lv_lload X.1 X.2.1 dc_M_closes_65 (lv_at hl 0 rfl) ?_
                refine cx_ladd X dc_M_closes_67 ?_
                refine lv_goto (tgt := 73) X.1 X.2.1 dc_M_closes_68 (by decide) ?_
                refine lv_lstore (lv' := [(4, .long (jL ((cs_pos S i h) + (cs_lf S i h)))), (7, .long (jL (cs_lf S i h))), (0, .ref (ad 20 0)), (1, .int (jI ((i : Int)))), (2, .long (jL (r))), (6, .int (jI ((h : Int))))]) X.1 X.2.1 dc_M_closes_73 hl (by decide) rfl (fun ls hl => ?_)
                refine lv_iinc (v := jI ((h : Int) + 1)) (lv' := [(6, .int (jI ((h : Int) + 1))), (4, .long (jL ((cs_pos S i h) + (cs_lf S i h)))), (7, .long (jL (cs_lf S i h))), (0, .ref (ad 20 0)), (1, .int (jI ((i : Int)))), (2, .long (jL (r)))]) X.1 X.2.1 dc_M_closes_75 hl (k := 5) rfl (jI_add _ _) (by decide) rfl (fun ls hl => ?_)
                refine lv_goto (tgt := 38) X.1 X.2.1 dc_M_closes_78 (by decide) ?_
                have qq : cs_pos S i (h + 1) = (cs_pos S i h) + (cs_lf S i h) := by rw [cs_pos_s, if_neg (by omega)]
                exact ih_7 (h + 1) ls  (by omega) (by omega) (by rw [qq]; exact lv_sub hl [3, 4, 5, 1, 0] rfl)
        exact lp_5 ((S 1 0 0 : Int).toNat + 1) 0 ls  (by omega) (by omega) (by  exact lv_sub hl [2, 3, 4, 1, 0] rfl)
      · refine cx_ldc2 (a := -1) X gk_M_109 (by decide +kernel) dc_M_closes_28 ?_
        exact cx_lretN X hr hlk (by rw [cs_closeQ, if_neg (by rw [cs_nn]; omega)]) dc_M_closes_31
