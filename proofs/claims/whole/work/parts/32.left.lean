def cs_left (S : cs_S) (i h : Nat) (on : Int) : Int := S 21 i h - cs_told S (i : Int) (h : Int) on (S 2 0 0).toNat
def cs_lf (S : cs_S) (i h : Nat) : Int := cs_left S i h 99999
def cs_over (S : cs_S) (i h : Nat) : Int := if - cs_lf S i h < 0 then 0 else - cs_lf S i h
def cs_carry (S : cs_S) (i h : Nat) : Int := if 0 < cs_over S i h then -((cs_over S i h * S 3 0 0 + S 4 0 0 - 1) / S 4 0 0) else if S 21 i h / 10 < cs_lf S i h then S 21 i h / 10 else cs_lf S i h
theorem cs_told_b {S : cs_S} (hI : cs_I S) (st h on : Int) (n : Nat) : 0 ≤ cs_told S st h on n ∧ cs_told S st h on n ≤ 1000000000 * (n : Int) := by
  have h3 := hI.2.2.1
  have := cs_sum_b (f := fun k => if S 7 k 0 = st ∧ S 8 k 0 = h ∧ S 10 k 0 ≤ on then S 9 k 0 else 0) (a := 0) (b := 1000000000) (n := n) (fun k _ => by
    have h4 := h3 k
    show 0 ≤ (if S 7 k 0 = st ∧ S 8 k 0 = h ∧ S 10 k 0 ≤ on then S 9 k 0 else 0) ∧ (if S 7 k 0 = st ∧ S 8 k 0 = h ∧ S 10 k 0 ≤ on then S 9 k 0 else 0) ≤ 1000000000
    split <;> omega)
  unfold cs_told
  omega
theorem cs_land_b {S : cs_S} (hI : cs_I S) (st : Int) (n : Nat) : 0 ≤ cs_land S st n ∧ cs_land S st n ≤ 1000000000 * (n : Int) := by
  have h3 := hI.2.2.1
  have := cs_sum_b (f := fun k => if S 7 k 0 = st then S 9 k 0 else 0) (a := 0) (b := 1000000000) (n := n) (fun k _ => by
    have h4 := h3 k
    show 0 ≤ (if S 7 k 0 = st then S 9 k 0 else 0) ∧ (if S 7 k 0 = st then S 9 k 0 else 0) ≤ 1000000000
    split <;> omega)
  unfold cs_land
  omega
theorem cs_left_b {S : cs_S} (hI : cs_I S) (i h : Nat) (on : Int) : -200000000000 ≤ cs_left S i h on ∧ cs_left S i h on ≤ 2000000000 := by
  have h1 := cs_told_b hI (i : Int) (h : Int) on (S 2 0 0).toNat
  have h2 := hI.1
  have h3 := hI.2.2.2.2.2.1 i h
  unfold cs_left
  omega
theorem cs_lf_b {S : cs_S} (hI : cs_I S) (i h : Nat) : -200000000000 ≤ cs_lf S i h ∧ cs_lf S i h ≤ 2000000000 := cs_left_b hI i h 99999
theorem cs_over_b {S : cs_S} (hI : cs_I S) (i h : Nat) : 0 ≤ cs_over S i h ∧ cs_over S i h ≤ 200000000000 := by
  have h1 := cs_lf_b hI i h
  unfold cs_over
  split <;> omega
theorem cs_op_b {S : cs_S} (hI : cs_I S) (i h : Nat) : 0 ≤ cs_over S i h * S 3 0 0 ∧ cs_over S i h * S 3 0 0 ≤ 200000000000000 := by
  have h1 := cs_over_b hI i h
  have h2 := hI.1
  refine ⟨Int.mul_nonneg h1.1 (by omega), ?_⟩
  have h3 := Int.mul_le_mul h1.2 (show S 3 0 0 ≤ 1000 by omega) (by omega) (by omega : (0 : Int) ≤ 200000000000)
  omega
theorem cs_div_b {a b : Int} (h1 : 0 ≤ a) (h2 : 0 < b) : 0 ≤ a / b ∧ a / b ≤ a := ⟨Int.ediv_nonneg h1 (by omega), Int.ediv_le_self b h1⟩
theorem cs_carry_b {S : cs_S} (hI : cs_I S) (i h : Nat) : -200000000001000 ≤ cs_carry S i h ∧ cs_carry S i h ≤ 200000000 := by
  have h1 := cs_op_b hI i h
  have h2 := hI.1
  have h3 := cs_lf_b hI i h
  have h4 := hI.2.2.2.2.2.1 i h
  have h5 := cs_div_b (a := cs_over S i h * S 3 0 0 + S 4 0 0 - 1) (b := S 4 0 0) (by omega) (by omega)
  unfold cs_carry
  split
  · omega
  · have h6 : cs_over S i h = 0 := by have := cs_over_b hI i h; omega
    unfold cs_over at h6
    split at h6 <;> split <;> omega
set_option maxHeartbeats 4000000 in
set_option maxRecDepth 100000 in
theorem c_C_leftOn (l : Launch) (u : cx_U) (ad : Nat → Nat → Nat) (S : cs_S) (sc : Nat → Nat → Int) (hI : cs_I S) (i h : Nat) (hi : (i : Int) < S 0 0 0) (hh : h < 12) (on : Int) (o1 : -2147483648 ≤ on) (o2 : on ≤ 2147483647) : cx_N l u mn_C_leftOn bc_C_leftOn 4 (some .long) 1 26 [.ref (ad 0 0), .ref (ad 14 i), .int (jI ((h : Int))), .int (jI (on))] (wC u ad S sc) (.long (jL (cs_left S i h on))) := by
  refine cx_N.of (by decide +kernel) (Nat.le_of_ble_eq_true rfl) ?_
  intro p e s m args below meth c ls A X hr hlk B hl
  have X : CallFix p m c bc_C_leftOn 4 s args GW "CatchShares" := X
  have hl : lv_has ls 4 [(0, .ref (ad 0 0)), (1, .ref (ad 14 i)), (2, .int (jI ((h : Int)))), (3, .int (jI (on)))] := hl
  have hI1 := hI.1
  refine lv_aload_n X.1 X.2.1 dc_C_leftOn_0 rfl (lv_at hl 1 rfl) ?_
  refine cx_get (v := .ref (ad 16 i)) X B (wC_14 u ad S sc hi) rfl uw_S 3 (by decide) gf_C_103 rfl dc_C_leftOn_1 ?_
  refine lv_iload_n X.1 X.2.1 dc_C_leftOn_4 rfl (lv_at hl 2 rfl) ?_
  refine cx_lald X B (wC_16 u ad S sc hi) (h) (by omega) (by omega) (by decide) dc_C_leftOn_5 ?_
  refine lv_aload_n X.1 X.2.1 dc_C_leftOn_6 rfl (lv_at hl 0 rfl) ?_
  refine cx_get (v := .ref (ad 4 0)) X B (wC_0 u ad S sc) rfl uw_C 5 (by decide) gf_C_25 rfl dc_C_leftOn_7 ?_
  refine lv_aload_n X.1 X.2.1 dc_C_leftOn_10 rfl (lv_at hl 1 rfl) ?_
  refine cx_get (v := .int (jI ((i : Int)))) X B (wC_14 u ad S sc hi) rfl uw_S 0 (by decide) gf_C_167 rfl dc_C_leftOn_11 ?_
  refine lv_iload_n X.1 X.2.1 dc_C_leftOn_14 rfl (lv_at hl 2 rfl) ?_
  refine lv_iload_n X.1 X.2.1 dc_C_leftOn_15 rfl (lv_at hl 3 rfl) ?_
  refine cx_cVN (r := .long (jL (cs_told S (i : Int) (h : Int) on (S 2 0 0).toNat))) (As := [.int (jI ((i : Int))), .int (jI ((h : Int))), .int (jI (on))]) (rest := [.long (jL (S 21 i h))]) X B kc_L_toldUpTo gm_C_194 (c_L_toldUpTo l u ad S sc hI (i : Int) (h : Int) on (by omega) (by omega) (by omega) (by omega) (by omega) (by omega)) (fun _ _ _ h => h) (wC_4 u ad S sc) rfl rfl ⟨(Nat.le_of_ble_eq_true rfl), (Nat.le_of_ble_eq_true rfl)⟩ ⟨(Nat.le_of_ble_eq_true rfl), (Nat.le_of_ble_eq_true rfl)⟩ rfl hl.1 (Nat.le_of_ble_eq_true rfl) dc_C_leftOn_16 rfl ?_
  refine cx_lsub X dc_C_leftOn_19 ?_
  exact cx_lretN X hr hlk (rfl) dc_C_leftOn_20
set_option maxHeartbeats 4000000 in
set_option maxRecDepth 100000 in
theorem c_C_leftInAll (l : Launch) (u : cx_U) (ad : Nat → Nat → Nat) (S : cs_S) (sc : Nat → Nat → Int) (hI : cs_I S) (i h : Nat) (hi : (i : Int) < S 0 0 0) (hh : h < 12) : cx_N l u mn_C_leftInAll bc_C_leftInAll 3 (some .long) 2 49 [.ref (ad 0 0), .ref (ad 14 i), .int (jI ((h : Int)))] (wC u ad S sc) (.long (jL (cs_lf S i h))) := by
  refine cx_N.of (by decide +kernel) (Nat.le_of_ble_eq_true rfl) ?_
  intro p e s m args below meth c ls A X hr hlk B hl
  have X : CallFix p m c bc_C_leftInAll 3 s args GW "CatchShares" := X
  have hl : lv_has ls 3 [(0, .ref (ad 0 0)), (1, .ref (ad 14 i)), (2, .int (jI ((h : Int))))] := hl
  have hI1 := hI.1
  refine lv_aload_n X.1 X.2.1 dc_C_leftInAll_0 rfl (lv_at hl 0 rfl) ?_
  refine lv_aload_n X.1 X.2.1 dc_C_leftInAll_1 rfl (lv_at hl 1 rfl) ?_
  refine lv_iload_n X.1 X.2.1 dc_C_leftInAll_2 rfl (lv_at hl 2 rfl) ?_
  refine cx_ldc (a := 99999) X gk_C_198 (by decide +kernel) dc_C_leftInAll_3 ?_
  refine cx_cVN (r := .long (jL (cs_lf S i h))) (As := [.ref (ad 14 i), .int (jI ((h : Int))), .int (jI (99999))]) (rest := []) X B kc_C_leftOn gm_C_112 (c_C_leftOn l u ad S sc hI i h hi hh 99999 (by omega) (by omega)) (fun _ _ _ h => h) (wC_0 u ad S sc) rfl rfl ⟨(Nat.le_of_ble_eq_true rfl), (Nat.le_of_ble_eq_true rfl)⟩ ⟨(Nat.le_of_ble_eq_true rfl), (Nat.le_of_ble_eq_true rfl)⟩ rfl hl.1 (Nat.le_of_ble_eq_true rfl) dc_C_leftInAll_5 rfl ?_
  exact cx_lretN X hr hlk (rfl) dc_C_leftInAll_8
set_option maxHeartbeats 4000000 in
set_option maxRecDepth 100000 in
theorem c_C_overOf (l : Launch) (u : cx_U) (ad : Nat → Nat → Nat) (S : cs_S) (sc : Nat → Nat → Int) (hI : cs_I S) (i h : Nat) (hi : (i : Int) < S 0 0 0) (hh : h < 12) : cx_N l u mn_C_overOf bc_C_overOf 3 (some .long) 3 71 [.ref (ad 0 0), .ref (ad 14 i), .int (jI ((h : Int)))] (wC u ad S sc) (.long (jL (cs_over S i h))) := by
  refine cx_N.of (by decide +kernel) (Nat.le_of_ble_eq_true rfl) ?_
  intro p e s m args below meth c ls A X hr hlk B hl
  have X : CallFix p m c bc_C_overOf 3 s args GW "CatchShares" := X
  have hl : lv_has ls 3 [(0, .ref (ad 0 0)), (1, .ref (ad 14 i)), (2, .int (jI ((h : Int))))] := hl
  have hI1 := hI.1
  have hf := cs_lf_b hI i h
  refine cx_lconst (a := 0) X dc_C_overOf_0 (by decide +kernel) ?_
  refine lv_aload_n X.1 X.2.1 dc_C_overOf_1 rfl (lv_at hl 0 rfl) ?_
  refine lv_aload_n X.1 X.2.1 dc_C_overOf_2 rfl (lv_at hl 1 rfl) ?_
  refine lv_iload_n X.1 X.2.1 dc_C_overOf_3 rfl (lv_at hl 2 rfl) ?_
  refine cx_cVN (r := .long (jL (cs_lf S i h))) (As := [.ref (ad 14 i), .int (jI ((h : Int)))]) (rest := [.long (jL (0))]) X B kc_C_leftInAll gm_C_116 (c_C_leftInAll l u ad S sc hI i h hi hh) (fun _ _ _ h => h) (wC_0 u ad S sc) rfl rfl ⟨(Nat.le_of_ble_eq_true rfl), (Nat.le_of_ble_eq_true rfl)⟩ ⟨(Nat.le_of_ble_eq_true rfl), (Nat.le_of_ble_eq_true rfl)⟩ rfl hl.1 (Nat.le_of_ble_eq_true rfl) dc_C_overOf_4 rfl ?_
  refine cx_lneg X dc_C_overOf_7 ?_
  refine cx_max X gm_C_170 (by omega) (by omega) (by omega) (by omega) hl.1 ⟨(Nat.le_of_ble_eq_true rfl), (Nat.le_of_ble_eq_true rfl)⟩ ⟨(Nat.le_of_ble_eq_true rfl), (Nat.le_of_ble_eq_true rfl)⟩ dc_C_overOf_8 ?_
  exact cx_lretN X hr hlk (rfl) dc_C_overOf_11
set_option maxHeartbeats 4000000 in
set_option maxRecDepth 100000 in
theorem c_C_carriedOf (l : Launch) (u : cx_U) (ad : Nat → Nat → Nat) (S : cs_S) (sc : Nat → Nat → Int) (hI : cs_I S) (i h : Nat) (hi : (i : Int) < S 0 0 0) (hh : h < 12) : cx_N l u mn_C_carriedOf bc_C_carriedOf 5 (some .long) 4 93 [.ref (ad 0 0), .ref (ad 14 i), .int (jI ((h : Int)))] (wC u ad S sc) (.long (jL (cs_carry S i h))) := by
  refine cx_N.of (by decide +kernel) (Nat.le_of_ble_eq_true rfl) ?_
  intro p e s m args below meth c ls A X hr hlk B hl
  have X : CallFix p m c bc_C_carriedOf 5 s args GW "CatchShares" := X
  have hl : lv_has ls 5 [(0, .ref (ad 0 0)), (1, .ref (ad 14 i)), (2, .int (jI ((h : Int))))] := hl
  have hI1 := hI.1
  have hf := cs_lf_b hI i h
  have ho := cs_over_b hI i h
  have hp := cs_op_b hI i h
  have hs := hI.2.2.2.2.2.1 i h
  refine lv_aload_n X.1 X.2.1 dc_C_carriedOf_0 rfl (lv_at hl 0 rfl) ?_
  refine lv_aload_n X.1 X.2.1 dc_C_carriedOf_1 rfl (lv_at hl 1 rfl) ?_
  refine lv_iload_n X.1 X.2.1 dc_C_carriedOf_2 rfl (lv_at hl 2 rfl) ?_
  refine cx_cVN (r := .long (jL (cs_over S i h))) (As := [.ref (ad 14 i), .int (jI ((h : Int)))]) (rest := []) X B kc_C_overOf gm_C_133 (c_C_overOf l u ad S sc hI i h hi hh) (fun _ _ _ h => h) (wC_0 u ad S sc) rfl rfl ⟨(Nat.le_of_ble_eq_true rfl), (Nat.le_of_ble_eq_true rfl)⟩ ⟨(Nat.le_of_ble_eq_true rfl), (Nat.le_of_ble_eq_true rfl)⟩ rfl hl.1 (Nat.le_of_ble_eq_true rfl) dc_C_carriedOf_3 rfl ?_
  refine lv_lstore_n (lv' := [(3, .long (jL (cs_over S i h))), (0, .ref (ad 0 0)), (1, .ref (ad 14 i)), (2, .int (jI ((h : Int))))]) X.1 X.2.1 dc_C_carriedOf_6 rfl hl (by decide) rfl (fun ls hl => ?_)
  refine lv_lload_n X.1 X.2.1 dc_C_carriedOf_7 rfl (lv_at hl 0 rfl) ?_
  refine cx_lconst (a := 0) X dc_C_carriedOf_8 (by decide +kernel) ?_
  refine cx_lcmp_le (tgt := 30) X (by omega) (by omega) (by omega) (by omega) dc_C_carriedOf_9 dc_C_carriedOf_10 (by decide) (fun c_1 => ?_) (fun c_1 => ?_)
  · refine lv_aload_n X.1 X.2.1 dc_C_carriedOf_30 rfl (lv_at hl 1 rfl) ?_
    refine lv_aload_n X.1 X.2.1 dc_C_carriedOf_31 rfl (lv_at hl 2 rfl) ?_
    refine lv_iload_n X.1 X.2.1 dc_C_carriedOf_32 rfl (lv_at hl 3 rfl) ?_
    refine cx_cVN (r := .long (jL (cs_lf S i h))) (As := [.ref (ad 14 i), .int (jI ((h : Int)))]) (rest := []) X B kc_C_leftInAll gm_C_116 (c_C_leftInAll l u ad S sc hI i h hi hh) (fun _ _ _ h => h) (wC_0 u ad S sc) rfl rfl ⟨(Nat.le_of_ble_eq_true rfl), (Nat.le_of_ble_eq_true rfl)⟩ ⟨(Nat.le_of_ble_eq_true rfl), (Nat.le_of_ble_eq_true rfl)⟩ rfl hl.1 (Nat.le_of_ble_eq_true rfl) dc_C_carriedOf_33 rfl ?_
    refine lv_aload_n X.1 X.2.1 dc_C_carriedOf_36 rfl (lv_at hl 2 rfl) ?_
    refine cx_get (v := .ref (ad 16 i)) X B (wC_14 u ad S sc hi) rfl uw_S 3 (by decide) gf_C_103 rfl dc_C_carriedOf_37 ?_
    refine lv_iload_n X.1 X.2.1 dc_C_carriedOf_40 rfl (lv_at hl 3 rfl) ?_
    refine cx_lald X B (wC_16 u ad S sc hi) (h) (by omega) (by omega) (by decide) dc_C_carriedOf_41 ?_
    refine cx_ldc2 (a := 10) X gk_C_199 (by decide +kernel) dc_C_carriedOf_42 ?_
    refine cx_ldiv X (by omega) (by omega) (by omega) (by omega) dc_C_carriedOf_45 ?_
    refine cx_min X gm_C_201 (by omega) (by omega) (by omega) (by omega) hl.1 ⟨(Nat.le_of_ble_eq_true rfl), (Nat.le_of_ble_eq_true rfl)⟩ ⟨(Nat.le_of_ble_eq_true rfl), (Nat.le_of_ble_eq_true rfl)⟩ dc_C_carriedOf_46 ?_
    exact cx_lretN X hr hlk (by rw [cs_carry, if_neg (show ¬ 0 < cs_over S i h by omega)]) dc_C_carriedOf_49
  · refine lv_lload_n X.1 X.2.1 dc_C_carriedOf_13 rfl (lv_at hl 0 rfl) ?_
    refine lv_aload_n X.1 X.2.1 dc_C_carriedOf_14 rfl (lv_at hl 1 rfl) ?_
    refine cx_get (v := .int (jI (S 3 0 0))) X B (wC_0 u ad S sc) rfl uw_C 7 (by decide) gf_C_36 rfl dc_C_carriedOf_15 ?_
    refine cx_i2l X (by omega) (by omega) dc_C_carriedOf_18 ?_
    refine cx_lmul X dc_C_carriedOf_19 ?_
    refine lv_aload_n X.1 X.2.1 dc_C_carriedOf_20 rfl (lv_at hl 1 rfl) ?_
    refine cx_get (v := .int (jI (S 4 0 0))) X B (wC_0 u ad S sc) rfl uw_C 8 (by decide) gf_C_40 rfl dc_C_carriedOf_21 ?_
    refine cx_i2l X (by omega) (by omega) dc_C_carriedOf_24 ?_
    refine cx_cSN (r := .long (jL ((((cs_over S i h) * (S 3 0 0)) + (S 4 0 0) - 1) / (S 4 0 0)))) (As := [.long (jL ((cs_over S i h) * (S 3 0 0))), .long (jL (S 4 0 0))]) (rest := []) X B kc_C_dividedUp gm_C_176 (c_C_dividedUp l u _ ((cs_over S i h) * (S 3 0 0)) (S 4 0 0) (by omega) (by omega) (by omega) (by omega)) (fun _ _ _ h => h) ⟨(Nat.le_of_ble_eq_true rfl), (Nat.le_of_ble_eq_true rfl)⟩ ⟨(Nat.le_of_ble_eq_true rfl), (Nat.le_of_ble_eq_true rfl)⟩ rfl hl.1 (Nat.le_of_ble_eq_true rfl) dc_C_carriedOf_25 rfl ?_
    refine cx_lneg X dc_C_carriedOf_28 ?_
    exact cx_lretN X hr hlk (by rw [cs_carry, if_pos (by omega)]) dc_C_carriedOf_29
def cs_given (S : cs_S) (a b : Int) : Int := if 0 ≤ a ∧ a < S 0 0 0 ∧ 0 ≤ b ∧ b < S 1 0 0 then S 21 a.toNat b.toNat else -1
def cs_leftQ (S : cs_S) (a b on : Int) : Int := if 0 ≤ a ∧ a < S 0 0 0 ∧ 0 ≤ b ∧ b < S 1 0 0 then cs_left S a.toNat b.toNat on else -1
def cs_overQ (S : cs_S) (a b : Int) : Int := if 0 ≤ a ∧ a < S 0 0 0 ∧ 0 ≤ b ∧ b < S 1 0 0 then cs_over S a.toNat b.toNat else -1
def cs_carryQ (S : cs_S) (a b : Int) : Int := if 0 ≤ a ∧ a < S 0 0 0 ∧ 0 ≤ b ∧ b < S 1 0 0 then cs_carry S a.toNat b.toNat else -1
set_option maxHeartbeats 4000000 in
set_option maxRecDepth 100000 in
theorem c_C_given (l : Launch) (u : cx_U) (ad : Nat → Nat → Nat) (S : cs_S) (sc : Nat → Nat → Int) (hI : cs_I S) (a b : Int) (a1 : -2147483648 ≤ a) (a2 : a ≤ 2147483647) (b1 : -2147483648 ≤ b) (b2 : b ≤ 2147483647) : cx_N l u mn_C_given bc_C_given 4 (some .long) 1 21 [.ref (ad 0 0), .int (jI (a)), .int (jI (b))] (wC u ad S sc) (.long (jL (cs_given S a b))) := by
  refine cx_N.of (by decide +kernel) (Nat.le_of_ble_eq_true rfl) ?_
  intro p e s m args below meth c ls A X hr hlk B hl
  have X : CallFix p m c bc_C_given 4 s args GW "CatchShares" := X
  have hl : lv_has ls 4 [(0, .ref (ad 0 0)), (1, .int (jI (a))), (2, .int (jI (b)))] := hl
  have hI1 := hI.1
  refine lv_aload_n X.1 X.2.1 dc_C_given_0 rfl (lv_at hl 0 rfl) ?_
  refine lv_iload_n X.1 X.2.1 dc_C_given_1 rfl (lv_at hl 1 rfl) ?_
  by_cases hs_1 : 0 ≤ a ∧ a < S 0 0 0
  · obtain ⟨i, rfl⟩ : ∃ i : Nat, a = (i : Int) := ⟨a.toNat, by omega⟩
    have hi : (i : Int) < S 0 0 0 := hs_1.2
    refine cx_cVN (As := [.int (jI (i : Int))]) (rest := []) X B kc_C_findStock gm_C_62 (c_C_findStock l u ad S sc hI i hi) (fun _ _ _ h => h) (wC_0 u ad S sc) rfl rfl ⟨(Nat.le_of_ble_eq_true rfl), (Nat.le_of_ble_eq_true rfl)⟩ ⟨(Nat.le_of_ble_eq_true rfl), (Nat.le_of_ble_eq_true rfl)⟩ rfl hl.1 (Nat.le_of_ble_eq_true rfl) dc_C_given_2 rfl ?_
    refine lv_astore_n (lv' := [(3, .ref (ad 14 i)), (0, .ref (ad 0 0)), (1, .int (jI ((i : Int)))), (2, .int (jI (b)))]) X.1 X.2.1 dc_C_given_5 rfl hl (by decide) rfl (fun ls hl => ?_)
    refine lv_aload_n X.1 X.2.1 dc_C_given_6 rfl (lv_at hl 0 rfl) ?_
    refine lv_ifnull X.1 X.2.1 dc_C_given_7 ?_
    refine lv_aload_n X.1 X.2.1 dc_C_given_10 rfl (lv_at hl 1 rfl) ?_
    refine lv_iload_n X.1 X.2.1 dc_C_given_11 rfl (lv_at hl 3 rfl) ?_
    refine cx_cVN (r := .int (jI (jB (0 ≤ b ∧ b < S 1 0 0)))) (As := [.int (jI (b))]) (rest := []) X B kc_C_isHolder gm_C_66 (c_C_isHolder l u ad S sc hI b (by omega) (by omega)) (fun _ _ _ h => h) (wC_0 u ad S sc) rfl rfl ⟨(Nat.le_of_ble_eq_true rfl), (Nat.le_of_ble_eq_true rfl)⟩ ⟨(Nat.le_of_ble_eq_true rfl), (Nat.le_of_ble_eq_true rfl)⟩ rfl hl.1 (Nat.le_of_ble_eq_true rfl) dc_C_given_12 rfl ?_
    refine cx_ifneB (tgt := 22) X dc_C_given_15 (by decide) (fun c_2 => ?_) (fun c_2 => ?_)
    · obtain ⟨h, rfl⟩ : ∃ h : Nat, b = (h : Int) := ⟨b.toNat, by omega⟩
      refine lv_aload_n X.1 X.2.1 dc_C_given_22 rfl (lv_at hl 0 rfl) ?_
      refine cx_get (v := .ref (ad 16 i)) X B (wC_14 u ad S sc hi) rfl uw_S 3 (by decide) gf_C_103 rfl dc_C_given_23 ?_
      refine lv_iload_n X.1 X.2.1 dc_C_given_26 rfl (lv_at hl 3 rfl) ?_
      refine cx_lald X B (wC_16 u ad S sc hi) (h) (by omega) (by omega) (by decide) dc_C_given_27 ?_
      exact cx_lretN X hr hlk (by rw [cs_given, if_pos (by omega)]; rfl) dc_C_given_28
    · refine cx_ldc2 (a := -1) X gk_C_101 (by decide +kernel) dc_C_given_18 ?_
      exact cx_lretN X hr hlk (by rw [cs_given, if_neg (by omega)]) dc_C_given_21
  · refine cx_cVN (As := [.int (jI (a))]) (rest := []) X B kc_C_findStock gm_C_62 (c_C_findStock_0 l u ad S sc hI a (by omega) (by omega) hs_1) (fun _ _ _ h => h) (wC_0 u ad S sc) rfl rfl ⟨(Nat.le_of_ble_eq_true rfl), (Nat.le_of_ble_eq_true rfl)⟩ ⟨(Nat.le_of_ble_eq_true rfl), (Nat.le_of_ble_eq_true rfl)⟩ rfl hl.1 (Nat.le_of_ble_eq_true rfl) dc_C_given_2 rfl ?_
    refine lv_astore_nN (lv' := [(3, .null), (0, .ref (ad 0 0)), (1, .int (jI (a))), (2, .int (jI (b)))]) X.1 X.2.1 dc_C_given_5 rfl hl (by decide) rfl (fun ls hl => ?_)
    refine lv_aload_nN X.1 X.2.1 dc_C_given_6 rfl (lv_at hl 0 rfl) ?_
    refine lv_ifnullN (tgt := 18) X.1 X.2.1 dc_C_given_7 (by decide) ?_
    refine cx_ldc2 (a := -1) X gk_C_101 (by decide +kernel) dc_C_given_18 ?_
    exact cx_lretN X hr hlk (by rw [cs_given, if_neg (by omega)]) dc_C_given_21
set_option maxHeartbeats 4000000 in
set_option maxRecDepth 100000 in
theorem c_C_over (l : Launch) (u : cx_U) (ad : Nat → Nat → Nat) (S : cs_S) (sc : Nat → Nat → Int) (hI : cs_I S) (a b : Int) (a1 : -2147483648 ≤ a) (a2 : a ≤ 2147483647) (b1 : -2147483648 ≤ b) (b2 : b ≤ 2147483647) : cx_N l u mn_C_over bc_C_over 4 (some .long) 4 93 [.ref (ad 0 0), .int (jI (a)), .int (jI (b))] (wC u ad S sc) (.long (jL (cs_overQ S a b))) := by
  refine cx_N.of (by decide +kernel) (Nat.le_of_ble_eq_true rfl) ?_
  intro p e s m args below meth c ls A X hr hlk B hl
  have X : CallFix p m c bc_C_over 4 s args GW "CatchShares" := X
  have hl : lv_has ls 4 [(0, .ref (ad 0 0)), (1, .int (jI (a))), (2, .int (jI (b)))] := hl
  have hI1 := hI.1
  refine lv_aload_n X.1 X.2.1 dc_C_over_0 rfl (lv_at hl 0 rfl) ?_
  refine lv_iload_n X.1 X.2.1 dc_C_over_1 rfl (lv_at hl 1 rfl) ?_
  by_cases hs_1 : 0 ≤ a ∧ a < S 0 0 0
  · obtain ⟨i, rfl⟩ : ∃ i : Nat, a = (i : Int) := ⟨a.toNat, by omega⟩
    have hi : (i : Int) < S 0 0 0 := hs_1.2
    refine cx_cVN (As := [.int (jI (i : Int))]) (rest := []) X B kc_C_findStock gm_C_62 (c_C_findStock l u ad S sc hI i hi) (fun _ _ _ h => h) (wC_0 u ad S sc) rfl rfl ⟨(Nat.le_of_ble_eq_true rfl), (Nat.le_of_ble_eq_true rfl)⟩ ⟨(Nat.le_of_ble_eq_true rfl), (Nat.le_of_ble_eq_true rfl)⟩ rfl hl.1 (Nat.le_of_ble_eq_true rfl) dc_C_over_2 rfl ?_
    refine lv_astore_n (lv' := [(3, .ref (ad 14 i)), (0, .ref (ad 0 0)), (1, .int (jI ((i : Int)))), (2, .int (jI (b)))]) X.1 X.2.1 dc_C_over_5 rfl hl (by decide) rfl (fun ls hl => ?_)
    refine lv_aload_n X.1 X.2.1 dc_C_over_6 rfl (lv_at hl 0 rfl) ?_
    refine lv_ifnull X.1 X.2.1 dc_C_over_7 ?_
    refine lv_aload_n X.1 X.2.1 dc_C_over_10 rfl (lv_at hl 1 rfl) ?_
    refine lv_iload_n X.1 X.2.1 dc_C_over_11 rfl (lv_at hl 3 rfl) ?_
    refine cx_cVN (r := .int (jI (jB (0 ≤ b ∧ b < S 1 0 0)))) (As := [.int (jI (b))]) (rest := []) X B kc_C_isHolder gm_C_66 (c_C_isHolder l u ad S sc hI b (by omega) (by omega)) (fun _ _ _ h => h) (wC_0 u ad S sc) rfl rfl ⟨(Nat.le_of_ble_eq_true rfl), (Nat.le_of_ble_eq_true rfl)⟩ ⟨(Nat.le_of_ble_eq_true rfl), (Nat.le_of_ble_eq_true rfl)⟩ rfl hl.1 (Nat.le_of_ble_eq_true rfl) dc_C_over_12 rfl ?_
    refine cx_ifneB (tgt := 22) X dc_C_over_15 (by decide) (fun c_2 => ?_) (fun c_2 => ?_)
    · obtain ⟨h, rfl⟩ : ∃ h : Nat, b = (h : Int) := ⟨b.toNat, by omega⟩
      refine lv_aload_n X.1 X.2.1 dc_C_over_22 rfl (lv_at hl 1 rfl) ?_
      refine lv_aload_n X.1 X.2.1 dc_C_over_23 rfl (lv_at hl 0 rfl) ?_
      refine lv_iload_n X.1 X.2.1 dc_C_over_24 rfl (lv_at hl 3 rfl) ?_
      refine cx_cVN (r := .long (jL (cs_over S i h))) (As := [.ref (ad 14 i), .int (jI ((h : Int)))]) (rest := []) X B kc_C_overOf gm_C_133 (c_C_overOf l u ad S sc hI i h hi (by omega)) (fun _ _ _ h => h) (wC_0 u ad S sc) rfl rfl ⟨(Nat.le_of_ble_eq_true rfl), (Nat.le_of_ble_eq_true rfl)⟩ ⟨(Nat.le_of_ble_eq_true rfl), (Nat.le_of_ble_eq_true rfl)⟩ rfl hl.1 (Nat.le_of_ble_eq_true rfl) dc_C_over_25 rfl ?_
      exact cx_lretN X hr hlk (by rw [cs_overQ, if_pos (by omega)]; rfl) dc_C_over_28
    · refine cx_ldc2 (a := -1) X gk_C_101 (by decide +kernel) dc_C_over_18 ?_
      exact cx_lretN X hr hlk (by rw [cs_overQ, if_neg (by omega)]) dc_C_over_21
  · refine cx_cVN (As := [.int (jI (a))]) (rest := []) X B kc_C_findStock gm_C_62 (c_C_findStock_0 l u ad S sc hI a (by omega) (by omega) hs_1) (fun _ _ _ h => h) (wC_0 u ad S sc) rfl rfl ⟨(Nat.le_of_ble_eq_true rfl), (Nat.le_of_ble_eq_true rfl)⟩ ⟨(Nat.le_of_ble_eq_true rfl), (Nat.le_of_ble_eq_true rfl)⟩ rfl hl.1 (Nat.le_of_ble_eq_true rfl) dc_C_over_2 rfl ?_
    refine lv_astore_nN (lv' := [(3, .null), (0, .ref (ad 0 0)), (1, .int (jI (a))), (2, .int (jI (b)))]) X.1 X.2.1 dc_C_over_5 rfl hl (by decide) rfl (fun ls hl => ?_)
    refine lv_aload_nN X.1 X.2.1 dc_C_over_6 rfl (lv_at hl 0 rfl) ?_
    refine lv_ifnullN (tgt := 18) X.1 X.2.1 dc_C_over_7 (by decide) ?_
    refine cx_ldc2 (a := -1) X gk_C_101 (by decide +kernel) dc_C_over_18 ?_
    exact cx_lretN X hr hlk (by rw [cs_overQ, if_neg (by omega)]) dc_C_over_21
set_option maxHeartbeats 4000000 in
set_option maxRecDepth 100000 in
theorem c_C_carried (l : Launch) (u : cx_U) (ad : Nat → Nat → Nat) (S : cs_S) (sc : Nat → Nat → Int) (hI : cs_I S) (a b : Int) (a1 : -2147483648 ≤ a) (a2 : a ≤ 2147483647) (b1 : -2147483648 ≤ b) (b2 : b ≤ 2147483647) : cx_N l u mn_C_carried bc_C_carried 4 (some .long) 5 117 [.ref (ad 0 0), .int (jI (a)), .int (jI (b))] (wC u ad S sc) (.long (jL (cs_carryQ S a b))) := by
  refine cx_N.of (by decide +kernel) (Nat.le_of_ble_eq_true rfl) ?_
  intro p e s m args below meth c ls A X hr hlk B hl
  have X : CallFix p m c bc_C_carried 4 s args GW "CatchShares" := X
  have hl : lv_has ls 4 [(0, .ref (ad 0 0)), (1, .int (jI (a))), (2, .int (jI (b)))] := hl
  have hI1 := hI.1
  refine lv_aload_n X.1 X.2.1 dc_C_carried_0 rfl (lv_at hl 0 rfl) ?_
  refine lv_iload_n X.1 X.2.1 dc_C_carried_1 rfl (lv_at hl 1 rfl) ?_
  by_cases hs_1 : 0 ≤ a ∧ a < S 0 0 0
  · obtain ⟨i, rfl⟩ : ∃ i : Nat, a = (i : Int) := ⟨a.toNat, by omega⟩
    have hi : (i : Int) < S 0 0 0 := hs_1.2
    refine cx_cVN (As := [.int (jI (i : Int))]) (rest := []) X B kc_C_findStock gm_C_62 (c_C_findStock l u ad S sc hI i hi) (fun _ _ _ h => h) (wC_0 u ad S sc) rfl rfl ⟨(Nat.le_of_ble_eq_true rfl), (Nat.le_of_ble_eq_true rfl)⟩ ⟨(Nat.le_of_ble_eq_true rfl), (Nat.le_of_ble_eq_true rfl)⟩ rfl hl.1 (Nat.le_of_ble_eq_true rfl) dc_C_carried_2 rfl ?_
    refine lv_astore_n (lv' := [(3, .ref (ad 14 i)), (0, .ref (ad 0 0)), (1, .int (jI ((i : Int)))), (2, .int (jI (b)))]) X.1 X.2.1 dc_C_carried_5 rfl hl (by decide) rfl (fun ls hl => ?_)
    refine lv_aload_n X.1 X.2.1 dc_C_carried_6 rfl (lv_at hl 0 rfl) ?_
    refine lv_ifnull X.1 X.2.1 dc_C_carried_7 ?_
    refine lv_aload_n X.1 X.2.1 dc_C_carried_10 rfl (lv_at hl 1 rfl) ?_
    refine lv_iload_n X.1 X.2.1 dc_C_carried_11 rfl (lv_at hl 3 rfl) ?_
    refine cx_cVN (r := .int (jI (jB (0 ≤ b ∧ b < S 1 0 0)))) (As := [.int (jI (b))]) (rest := []) X B kc_C_isHolder gm_C_66 (c_C_isHolder l u ad S sc hI b (by omega) (by omega)) (fun _ _ _ h => h) (wC_0 u ad S sc) rfl rfl ⟨(Nat.le_of_ble_eq_true rfl), (Nat.le_of_ble_eq_true rfl)⟩ ⟨(Nat.le_of_ble_eq_true rfl), (Nat.le_of_ble_eq_true rfl)⟩ rfl hl.1 (Nat.le_of_ble_eq_true rfl) dc_C_carried_12 rfl ?_
    refine cx_ifneB (tgt := 22) X dc_C_carried_15 (by decide) (fun c_2 => ?_) (fun c_2 => ?_)
    · obtain ⟨h, rfl⟩ : ∃ h : Nat, b = (h : Int) := ⟨b.toNat, by omega⟩
      refine lv_aload_n X.1 X.2.1 dc_C_carried_22 rfl (lv_at hl 1 rfl) ?_
      refine lv_aload_n X.1 X.2.1 dc_C_carried_23 rfl (lv_at hl 0 rfl) ?_
      refine lv_iload_n X.1 X.2.1 dc_C_carried_24 rfl (lv_at hl 3 rfl) ?_
      refine cx_cVN (r := .long (jL (cs_carry S i h))) (As := [.ref (ad 14 i), .int (jI ((h : Int)))]) (rest := []) X B kc_C_carriedOf gm_C_136 (c_C_carriedOf l u ad S sc hI i h hi (by omega)) (fun _ _ _ h => h) (wC_0 u ad S sc) rfl rfl ⟨(Nat.le_of_ble_eq_true rfl), (Nat.le_of_ble_eq_true rfl)⟩ ⟨(Nat.le_of_ble_eq_true rfl), (Nat.le_of_ble_eq_true rfl)⟩ rfl hl.1 (Nat.le_of_ble_eq_true rfl) dc_C_carried_25 rfl ?_
      exact cx_lretN X hr hlk (by rw [cs_carryQ, if_pos (by omega)]; rfl) dc_C_carried_28
    · refine cx_ldc2 (a := -1) X gk_C_101 (by decide +kernel) dc_C_carried_18 ?_
      exact cx_lretN X hr hlk (by rw [cs_carryQ, if_neg (by omega)]) dc_C_carried_21
  · refine cx_cVN (As := [.int (jI (a))]) (rest := []) X B kc_C_findStock gm_C_62 (c_C_findStock_0 l u ad S sc hI a (by omega) (by omega) hs_1) (fun _ _ _ h => h) (wC_0 u ad S sc) rfl rfl ⟨(Nat.le_of_ble_eq_true rfl), (Nat.le_of_ble_eq_true rfl)⟩ ⟨(Nat.le_of_ble_eq_true rfl), (Nat.le_of_ble_eq_true rfl)⟩ rfl hl.1 (Nat.le_of_ble_eq_true rfl) dc_C_carried_2 rfl ?_
    refine lv_astore_nN (lv' := [(3, .null), (0, .ref (ad 0 0)), (1, .int (jI (a))), (2, .int (jI (b)))]) X.1 X.2.1 dc_C_carried_5 rfl hl (by decide) rfl (fun ls hl => ?_)
    refine lv_aload_nN X.1 X.2.1 dc_C_carried_6 rfl (lv_at hl 0 rfl) ?_
    refine lv_ifnullN (tgt := 18) X.1 X.2.1 dc_C_carried_7 (by decide) ?_
    refine cx_ldc2 (a := -1) X gk_C_101 (by decide +kernel) dc_C_carried_18 ?_
    exact cx_lretN X hr hlk (by rw [cs_carryQ, if_neg (by omega)]) dc_C_carried_21
set_option maxHeartbeats 4000000 in
set_option maxRecDepth 100000 in
theorem c_C_left (l : Launch) (u : cx_U) (ad : Nat → Nat → Nat) (S : cs_S) (sc : Nat → Nat → Int) (hI : cs_I S) (a b : Int) (a1 : -2147483648 ≤ a) (a2 : a ≤ 2147483647) (b1 : -2147483648 ≤ b) (b2 : b ≤ 2147483647) (on : Int) (o1 : -2147483648 ≤ on) (o2 : on ≤ 2147483647) : cx_N l u mn_C_left bc_C_left 5 (some .long) 2 49 [.ref (ad 0 0), .int (jI (a)), .int (jI (b)), .int (jI (on))] (wC u ad S sc) (.long (jL (cs_leftQ S a b on))) := by
  refine cx_N.of (by decide +kernel) (Nat.le_of_ble_eq_true rfl) ?_
  intro p e s m args below meth c ls A X hr hlk B hl
  have X : CallFix p m c bc_C_left 5 s args GW "CatchShares" := X
  have hl : lv_has ls 5 [(0, .ref (ad 0 0)), (1, .int (jI (a))), (2, .int (jI (b))), (3, .int (jI (on)))] := hl
  have hI1 := hI.1
  refine lv_aload_n X.1 X.2.1 dc_C_left_0 rfl (lv_at hl 0 rfl) ?_
  refine lv_iload_n X.1 X.2.1 dc_C_left_1 rfl (lv_at hl 1 rfl) ?_
  by_cases hs_1 : 0 ≤ a ∧ a < S 0 0 0
  · obtain ⟨i, rfl⟩ : ∃ i : Nat, a = (i : Int) := ⟨a.toNat, by omega⟩
    have hi : (i : Int) < S 0 0 0 := hs_1.2
    refine cx_cVN (As := [.int (jI (i : Int))]) (rest := []) X B kc_C_findStock gm_C_62 (c_C_findStock l u ad S sc hI i hi) (fun _ _ _ h => h) (wC_0 u ad S sc) rfl rfl ⟨(Nat.le_of_ble_eq_true rfl), (Nat.le_of_ble_eq_true rfl)⟩ ⟨(Nat.le_of_ble_eq_true rfl), (Nat.le_of_ble_eq_true rfl)⟩ rfl hl.1 (Nat.le_of_ble_eq_true rfl) dc_C_left_2 rfl ?_
    refine lv_astore (lv' := [(4, .ref (ad 14 i)), (0, .ref (ad 0 0)), (1, .int (jI ((i : Int)))), (2, .int (jI (b))), (3, .int (jI (on)))]) X.1 X.2.1 dc_C_left_5 hl (by decide) rfl (fun ls hl => ?_)
    refine lv_aload X.1 X.2.1 dc_C_left_7 (lv_at hl 0 rfl) ?_
    refine lv_ifnull X.1 X.2.1 dc_C_left_9 ?_
    refine lv_aload_n X.1 X.2.1 dc_C_left_12 rfl (lv_at hl 1 rfl) ?_
    refine lv_iload_n X.1 X.2.1 dc_C_left_13 rfl (lv_at hl 3 rfl) ?_
    refine cx_cVN (r := .int (jI (jB (0 ≤ b ∧ b < S 1 0 0)))) (As := [.int (jI (b))]) (rest := []) X B kc_C_isHolder gm_C_66 (c_C_isHolder l u ad S sc hI b (by omega) (by omega)) (fun _ _ _ h => h) (wC_0 u ad S sc) rfl rfl ⟨(Nat.le_of_ble_eq_true rfl), (Nat.le_of_ble_eq_true rfl)⟩ ⟨(Nat.le_of_ble_eq_true rfl), (Nat.le_of_ble_eq_true rfl)⟩ rfl hl.1 (Nat.le_of_ble_eq_true rfl) dc_C_left_14 rfl ?_
    refine cx_ifneB (tgt := 24) X dc_C_left_17 (by decide) (fun c_2 => ?_) (fun c_2 => ?_)
    · obtain ⟨h, rfl⟩ : ∃ h : Nat, b = (h : Int) := ⟨b.toNat, by omega⟩
      refine lv_aload_n X.1 X.2.1 dc_C_left_24 rfl (lv_at hl 1 rfl) ?_
      refine lv_aload X.1 X.2.1 dc_C_left_25 (lv_at hl 0 rfl) ?_
      refine lv_iload_n X.1 X.2.1 dc_C_left_27 rfl (lv_at hl 3 rfl) ?_
      refine lv_iload_n X.1 X.2.1 dc_C_left_28 rfl (lv_at hl 4 rfl) ?_
      refine cx_cVN (r := .long (jL (cs_left S i h on))) (As := [.ref (ad 14 i), .int (jI ((h : Int))), .int (jI (on))]) (rest := []) X B kc_C_leftOn gm_C_112 (c_C_leftOn l u ad S sc hI i h hi (by omega) on (by omega) (by omega)) (fun _ _ _ h => h) (wC_0 u ad S sc) rfl rfl ⟨(Nat.le_of_ble_eq_true rfl), (Nat.le_of_ble_eq_true rfl)⟩ ⟨(Nat.le_of_ble_eq_true rfl), (Nat.le_of_ble_eq_true rfl)⟩ rfl hl.1 (Nat.le_of_ble_eq_true rfl) dc_C_left_29 rfl ?_
      exact cx_lretN X hr hlk (by rw [cs_leftQ, if_pos (by omega)]; rfl) dc_C_left_32
    · refine cx_ldc2 (a := -1) X gk_C_101 (by decide +kernel) dc_C_left_20 ?_
      exact cx_lretN X hr hlk (by rw [cs_leftQ, if_neg (by omega)]) dc_C_left_23
  · refine cx_cVN (As := [.int (jI (a))]) (rest := []) X B kc_C_findStock gm_C_62 (c_C_findStock_0 l u ad S sc hI a (by omega) (by omega) hs_1) (fun _ _ _ h => h) (wC_0 u ad S sc) rfl rfl ⟨(Nat.le_of_ble_eq_true rfl), (Nat.le_of_ble_eq_true rfl)⟩ ⟨(Nat.le_of_ble_eq_true rfl), (Nat.le_of_ble_eq_true rfl)⟩ rfl hl.1 (Nat.le_of_ble_eq_true rfl) dc_C_left_2 rfl ?_
    refine lv_astoreN (lv' := [(4, .null), (0, .ref (ad 0 0)), (1, .int (jI (a))), (2, .int (jI (b))), (3, .int (jI (on)))]) X.1 X.2.1 dc_C_left_5 hl (by decide) rfl (fun ls hl => ?_)
    refine lv_aloadN X.1 X.2.1 dc_C_left_7 (lv_at hl 0 rfl) ?_
    refine lv_ifnullN (tgt := 20) X.1 X.2.1 dc_C_left_9 (by decide) ?_
    refine cx_ldc2 (a := -1) X gk_C_101 (by decide +kernel) dc_C_left_20 ?_
    exact cx_lretN X hr hlk (by rw [cs_leftQ, if_neg (by omega)]) dc_C_left_23
