def cs_pool (S : cs_S) (i : Nat) (pl : Int) : Nat → Int := cs_sum (fun h => if S 6 h 0 = pl then cs_lf S i h else 0)
theorem cs_pool_s (S : cs_S) (i : Nat) (pl : Int) (n : Nat) : cs_pool S i pl (n + 1) = cs_pool S i pl n + (if S 6 n 0 = pl then cs_lf S i n else 0) := rfl
def cs_pos (S : cs_S) (i : Nat) : Nat → Int := cs_sum (fun h => if cs_lf S i h < 0 then 0 else cs_lf S i h)
theorem cs_pos_s (S : cs_S) (i : Nat) (n : Nat) : cs_pos S i (n + 1) = cs_pos S i n + (if cs_lf S i n < 0 then 0 else cs_lf S i n) := rfl
theorem cs_pos_b {S : cs_S} (hI : cs_I S) (i n : Nat) : 0 ≤ cs_pos S i n ∧ cs_pos S i n ≤ 2000000000 * (n : Int) := by
  have := cs_sum_b (f := fun h => if cs_lf S i h < 0 then 0 else cs_lf S i h) (a := 0) (b := 2000000000) (n := n) (fun k _ => by
    have h4 := cs_lf_b hI i k
    show 0 ≤ (if cs_lf S i k < 0 then 0 else cs_lf S i k) ∧ (if cs_lf S i k < 0 then 0 else cs_lf S i k) ≤ 2000000000
    split <;> omega)
  unfold cs_pos
  omega
def cs_poolQ (S : cs_S) (a b : Int) : Int := if 0 ≤ a ∧ a < S 0 0 0 ∧ 0 ≤ b ∧ b < 4 then cs_pool S a.toNat b (S 1 0 0).toNat else -1
def cs_closeQ (S : cs_S) (a r : Int) : Int := if 0 ≤ a ∧ a < S 0 0 0 ∧ S 14 a.toNat 0 = 1 ∧ 1 ≤ r ∧ r ≤ 1000000000 then (cs_pos S a.toNat (S 1 0 0).toNat + r - 1) / r else -1
def cs_discQ (S : cs_S) (a : Int) : Int := if 0 ≤ a ∧ a < S 0 0 0 ∧ 1 ≤ S 17 a.toNat 0 then cs_land S a (S 2 0 0).toNat * S 18 a.toNat 0 / S 17 a.toNat 0 else -1
def cs_toldQ (S : cs_S) (a b : Int) : Int := if 0 ≤ a ∧ a < S 0 0 0 then (if b = 0 then S 12 a.toNat 0 else if b = 1 then S 13 a.toNat 0 else if b = 2 then S 14 a.toNat 0 else if b = 3 then cs_sum (S 21 a.toNat) 12 else if b = 4 then cs_land S a (S 2 0 0).toNat else if b = 5 then S 16 a.toNat 0 else if b = 6 then S 15 a.toNat 0 else -1) else -1
def cs_sumsQ (S : cs_S) (a : Int) : Prop := 0 ≤ a ∧ a < S 0 0 0 ∧ S 14 a.toNat 0 = 1 ∧ jL (cs_sum (S 21 a.toNat) 12) = jL (S 22 a.toNat 0)
set_option maxHeartbeats 4000000 in
set_option maxRecDepth 100000 in
theorem c_C_pooled (l : Launch) (u : cx_U) (ad : Nat → Nat → Nat) (S : cs_S) (sc : Nat → Nat → Int) (hI : cs_I S) (a b : Int) (a1 : -2147483648 ≤ a) (a2 : a ≤ 2147483647) (b1 : -2147483648 ≤ b) (b2 : b ≤ 2147483647) : cx_N l u mn_C_pooled bc_C_pooled 7 (some .long) 3 71 [.ref (ad 0 0), .int (jI (a)), .int (jI (b))] (wC u ad S sc) (.long (jL (cs_poolQ S a b))) := by
  refine cx_N.of (by decide +kernel) (Nat.le_of_ble_eq_true rfl) ?_
  intro p e s m args below meth c ls A X hr hlk B hl
  have X : CallFix p m c bc_C_pooled 7 s args GW "CatchShares" := X
  have hl : lv_has ls 7 [(0, .ref (ad 0 0)), (1, .int (jI (a))), (2, .int (jI (b)))] := hl
  have hI1 := hI.1
  have hI2 := hI.2.1
  refine lv_aload_n X.1 X.2.1 dc_C_pooled_0 rfl (lv_at hl 0 rfl) ?_
  refine lv_iload_n X.1 X.2.1 dc_C_pooled_1 rfl (lv_at hl 1 rfl) ?_
  by_cases hs_1 : 0 ≤ a ∧ a < S 0 0 0
  · obtain ⟨i, rfl⟩ : ∃ i : Nat, a = (i : Int) := ⟨a.toNat, by omega⟩
    have hi : (i : Int) < S 0 0 0 := hs_1.2
    refine cx_cVN (As := [.int (jI (i : Int))]) (rest := []) X B kc_C_findStock gm_C_62 (c_C_findStock l u ad S sc hI i hi) (fun _ _ _ h => h) (wC_0 u ad S sc) rfl rfl ⟨(Nat.le_of_ble_eq_true rfl), (Nat.le_of_ble_eq_true rfl)⟩ ⟨(Nat.le_of_ble_eq_true rfl), (Nat.le_of_ble_eq_true rfl)⟩ rfl hl.1 (Nat.le_of_ble_eq_true rfl) dc_C_pooled_2 rfl ?_
    refine lv_astore_n (lv' := [(3, .ref (ad 14 i)), (0, .ref (ad 0 0)), (1, .int (jI ((i : Int)))), (2, .int (jI (b)))]) X.1 X.2.1 dc_C_pooled_5 rfl hl (by decide) rfl (fun ls hl => ?_)
    refine lv_aload_n X.1 X.2.1 dc_C_pooled_6 rfl (lv_at hl 0 rfl) ?_
    refine lv_ifnull X.1 X.2.1 dc_C_pooled_7 ?_
    refine lv_iload_n X.1 X.2.1 dc_C_pooled_10 rfl (lv_at hl 3 rfl) ?_
    refine cx_cSN (r := .int (jI (jB (0 ≤ b ∧ b < 4)))) (As := [.int (jI (b))]) (rest := []) X B kc_C_isPool gm_C_139 (c_C_isPool l u _ b (by omega) (by omega)) (fun _ _ _ h => h) ⟨(Nat.le_of_ble_eq_true rfl), (Nat.le_of_ble_eq_true rfl)⟩ ⟨(Nat.le_of_ble_eq_true rfl), (Nat.le_of_ble_eq_true rfl)⟩ rfl hl.1 (Nat.le_of_ble_eq_true rfl) dc_C_pooled_11 rfl ?_
    refine cx_ifneB (tgt := 21) X dc_C_pooled_14 (by decide) (fun c_2 => ?_) (fun c_2 => ?_)
    · refine cx_lconst (a := 0) X dc_C_pooled_21 (by decide +kernel) ?_
      refine lv_lstore (lv' := [(4, .long (jL (0))), (3, .ref (ad 14 i)), (0, .ref (ad 0 0)), (1, .int (jI ((i : Int)))), (2, .int (jI (b)))]) X.1 X.2.1 dc_C_pooled_22 hl (by decide) rfl (fun ls hl => ?_)
      refine cx_iconst X dc_C_pooled_24 ?_
      refine lv_istore (lv' := [(6, .int (jI (0))), (4, .long (jL (0))), (3, .ref (ad 14 i)), (0, .ref (ad 0 0)), (1, .int (jI ((i : Int)))), (2, .int (jI (b)))]) X.1 X.2.1 dc_C_pooled_25 hl (by decide) rfl (fun ls hl => ?_)
      have lp_3 : ∀ (n_4 h : Nat) (ls : Array Slot) , (h : Int) ≤ S 1 0 0 → S 1 0 0 - (h : Int) < (n_4 : Int) → lv_has ls 7 [(0, .ref (ad 0 0)), (1, .int (jI ((i : Int)))), (2, .int (jI (b))), (3, .ref (ad 14 i)), (4, .long (jL (cs_pool S i b h))), (6, .int (jI ((h : Int))))] → W p l e (cx_R 3 71 0 0) s m args below meth c s.heap [] 0 0 (MQ below (fun _ st_ oc_ t_ => oc_ = .returned (some (.long (jL (cs_poolQ S (i : Int) b)))) ∧ t_.heap = st_.heap) args s 0 0 (fun _ => False)) (F0 m 27 ls []) := by
        intro n_4
        induction n_4 with
        | zero => intro h ls  hi_6 hn_7; exfalso; omega
        | succ n_4 ih_5 =>
          intro h ls  hi_6 hn_7 hl
          have hI2 := hI2 h
          refine lv_iload X.1 X.2.1 dc_C_pooled_27 (lv_at hl 5 rfl) ?_
          refine lv_aload_n X.1 X.2.1 dc_C_pooled_29 rfl (lv_at hl 0 rfl) ?_
          refine cx_get (v := .int (jI (S 1 0 0))) X B (wC_0 u ad S sc) rfl uw_C 4 (by decide) gf_C_55 rfl dc_C_pooled_30 ?_
          refine cx_icmp_ge (tgt := 65) X (by omega) (by omega) (by omega) (by omega) dc_C_pooled_33 (by decide) (fun c_8 => ?_) (fun c_8 => ?_)
          · refine lv_lload X.1 X.2.1 dc_C_pooled_65 (lv_at hl 4 rfl) ?_
            exact cx_lretN X hr hlk (by rw [cs_poolQ, if_pos (by omega), show (S 1 0 0).toNat = h by omega]; rfl) dc_C_pooled_67
          · refine lv_aload_n X.1 X.2.1 dc_C_pooled_36 rfl (lv_at hl 0 rfl) ?_
            refine cx_get (v := .ref (ad 3 0)) X B (wC_0 u ad S sc) rfl uw_C 3 (by decide) gf_C_19 rfl dc_C_pooled_37 ?_
            refine lv_iload X.1 X.2.1 dc_C_pooled_40 (lv_at hl 5 rfl) ?_
            refine cx_iald X B (wC_3 u ad S sc) (h) (by omega) (by omega) (by decide) dc_C_pooled_42 ?_
            refine lv_iload_n X.1 X.2.1 dc_C_pooled_43 rfl (lv_at hl 2 rfl) ?_
            refine cx_icmp_ne (tgt := 59) X (by omega) (by omega) (by omega) (by omega) dc_C_pooled_44 (by decide) (fun c_9 => ?_) (fun c_9 => ?_)
            · refine lv_iinc (v := jI ((h : Int) + 1)) (lv' := [(6, .int (jI ((h : Int) + 1))), (0, .ref (ad 0 0)), (1, .int (jI ((i : Int)))), (2, .int (jI (b))), (3, .ref (ad 14 i)), (4, .long (jL (cs_pool S i b h)))]) X.1 X.2.1 dc_C_pooled_59 hl (k := 5) rfl (jI_add _ _) (by decide) rfl (fun ls hl => ?_)
              refine lv_goto (tgt := 27) X.1 X.2.1 dc_C_pooled_62 (by decide) ?_
              have qq : cs_pool S i b (h + 1) = cs_pool S i b h := by rw [cs_pool_s, if_neg (by omega)]; omega
              exact ih_5 (h + 1) ls  (by omega) (by omega) (by rw [qq]; exact lv_sub hl [1, 2, 3, 4, 5, 0] rfl)
            · refine lv_lload X.1 X.2.1 dc_C_pooled_47 (lv_at hl 4 rfl) ?_
              refine lv_aload_n X.1 X.2.1 dc_C_pooled_49 rfl (lv_at hl 0 rfl) ?_
              refine lv_aload_n X.1 X.2.1 dc_C_pooled_50 rfl (lv_at hl 3 rfl) ?_
              refine lv_iload X.1 X.2.1 dc_C_pooled_51 (lv_at hl 5 rfl) ?_
              refine cx_cVN (r := .long (jL (cs_lf S i h))) (As := [.ref (ad 14 i), .int (jI ((h : Int)))]) (rest := [.long (jL (cs_pool S i b h))]) X B kc_C_leftInAll gm_C_116 (c_C_leftInAll l u ad S sc hI i h hi (by omega)) (fun _ _ _ h => h) (wC_0 u ad S sc) rfl rfl ⟨(Nat.le_of_ble_eq_true rfl), (Nat.le_of_ble_eq_true rfl)⟩ ⟨(Nat.le_of_ble_eq_true rfl), (Nat.le_of_ble_eq_true rfl)⟩ rfl hl.1 (Nat.le_of_ble_eq_true rfl) dc_C_pooled_53 rfl ?_
              refine cx_ladd X dc_C_pooled_56 ?_
              refine lv_lstore (lv' := [(4, .long (jL ((cs_pool S i b h) + (cs_lf S i h)))), (0, .ref (ad 0 0)), (1, .int (jI ((i : Int)))), (2, .int (jI (b))), (3, .ref (ad 14 i)), (6, .int (jI ((h : Int))))]) X.1 X.2.1 dc_C_pooled_57 hl (by decide) rfl (fun ls hl => ?_)
              refine lv_iinc (v := jI ((h : Int) + 1)) (lv' := [(6, .int (jI ((h : Int) + 1))), (4, .long (jL ((cs_pool S i b h) + (cs_lf S i h)))), (0, .ref (ad 0 0)), (1, .int (jI ((i : Int)))), (2, .int (jI (b))), (3, .ref (ad 14 i))]) X.1 X.2.1 dc_C_pooled_59 hl (k := 5) rfl (jI_add _ _) (by decide) rfl (fun ls hl => ?_)
              refine lv_goto (tgt := 27) X.1 X.2.1 dc_C_pooled_62 (by decide) ?_
              have qq : cs_pool S i b (h + 1) = (cs_pool S i b h) + (cs_lf S i h) := by rw [cs_pool_s, if_pos (by omega)]
              exact ih_5 (h + 1) ls  (by omega) (by omega) (by rw [qq]; exact lv_sub hl [2, 3, 4, 5, 1, 0] rfl)
      exact lp_3 ((S 1 0 0 : Int).toNat + 1) 0 ls  (by omega) (by omega) (by  exact lv_sub hl [3, 4, 5, 2, 1, 0] rfl)
    · refine cx_ldc2 (a := -1) X gk_C_101 (by decide +kernel) dc_C_pooled_17 ?_
      exact cx_lretN X hr hlk (by rw [cs_poolQ, if_neg (by omega)]) dc_C_pooled_20
  · refine cx_cVN (As := [.int (jI (a))]) (rest := []) X B kc_C_findStock gm_C_62 (c_C_findStock_0 l u ad S sc hI a (by omega) (by omega) hs_1) (fun _ _ _ h => h) (wC_0 u ad S sc) rfl rfl ⟨(Nat.le_of_ble_eq_true rfl), (Nat.le_of_ble_eq_true rfl)⟩ ⟨(Nat.le_of_ble_eq_true rfl), (Nat.le_of_ble_eq_true rfl)⟩ rfl hl.1 (Nat.le_of_ble_eq_true rfl) dc_C_pooled_2 rfl ?_
    refine lv_astore_nN (lv' := [(3, .null), (0, .ref (ad 0 0)), (1, .int (jI (a))), (2, .int (jI (b)))]) X.1 X.2.1 dc_C_pooled_5 rfl hl (by decide) rfl (fun ls hl => ?_)
    refine lv_aload_nN X.1 X.2.1 dc_C_pooled_6 rfl (lv_at hl 0 rfl) ?_
    refine lv_ifnullN (tgt := 17) X.1 X.2.1 dc_C_pooled_7 (by decide) ?_
    refine cx_ldc2 (a := -1) X gk_C_101 (by decide +kernel) dc_C_pooled_17 ?_
    exact cx_lretN X hr hlk (by rw [cs_poolQ, if_neg (by omega)]) dc_C_pooled_20
set_option maxHeartbeats 4000000 in
set_option maxRecDepth 100000 in
theorem c_C_closes (l : Launch) (u : cx_U) (ad : Nat → Nat → Nat) (S : cs_S) (sc : Nat → Nat → Int) (hI : cs_I S) (a r : Int) (a1 : -2147483648 ≤ a) (a2 : a ≤ 2147483647) (r1 : -9223372036854775808 ≤ r) (r2 : r ≤ 9223372036854775807) : cx_N l u mn_C_closes bc_C_closes 8 (some .long) 3 71 [.ref (ad 0 0), .int (jI (a)), .long (jL (r))] (wC u ad S sc) (.long (jL (cs_closeQ S a r))) := by
  refine cx_N.of (by decide +kernel) (Nat.le_of_ble_eq_true rfl) ?_
  intro p e s m args below meth c ls A X hr hlk B hl
  have X : CallFix p m c bc_C_closes 8 s args GW "CatchShares" := X
  have hl : lv_has ls 8 [(0, .ref (ad 0 0)), (1, .int (jI (a))), (2, .long (jL (r)))] := hl
  have hI1 := hI.1
  have hI5 := hI.2.2.2.2.1
  refine lv_aload_n X.1 X.2.1 dc_C_closes_0 rfl (lv_at hl 0 rfl) ?_
  refine lv_iload_n X.1 X.2.1 dc_C_closes_1 rfl (lv_at hl 1 rfl) ?_
  by_cases hs_1 : 0 ≤ a ∧ a < S 0 0 0
  · obtain ⟨i, rfl⟩ : ∃ i : Nat, a = (i : Int) := ⟨a.toNat, by omega⟩
    have hi : (i : Int) < S 0 0 0 := hs_1.2
    refine cx_cVN (As := [.int (jI (i : Int))]) (rest := []) X B kc_C_findStock gm_C_62 (c_C_findStock l u ad S sc hI i hi) (fun _ _ _ h => h) (wC_0 u ad S sc) rfl rfl ⟨(Nat.le_of_ble_eq_true rfl), (Nat.le_of_ble_eq_true rfl)⟩ ⟨(Nat.le_of_ble_eq_true rfl), (Nat.le_of_ble_eq_true rfl)⟩ rfl hl.1 (Nat.le_of_ble_eq_true rfl) dc_C_closes_2 rfl ?_
    refine lv_astore (lv' := [(4, .ref (ad 14 i)), (0, .ref (ad 0 0)), (1, .int (jI ((i : Int)))), (2, .long (jL (r)))]) X.1 X.2.1 dc_C_closes_5 hl (by decide) rfl (fun ls hl => ?_)
    refine lv_aload X.1 X.2.1 dc_C_closes_7 (lv_at hl 0 rfl) ?_
    refine lv_ifnull X.1 X.2.1 dc_C_closes_9 ?_
    refine lv_aload X.1 X.2.1 dc_C_closes_12 (lv_at hl 0 rfl) ?_
    refine cx_get (v := .int (jI (S 14 i 0))) X B (wC_14 u ad S sc hi) rfl uw_S 5 (by decide) gf_C_69 rfl dc_C_closes_14 ?_
    have r_2 := hI5 i
    refine cx_if_eq (tgt := 31) X (by omega) (by omega) dc_C_closes_17 (by decide) (fun c_3 => ?_) (fun c_3 => ?_)
    · refine cx_ldc2 (a := -1) X gk_C_101 (by decide +kernel) dc_C_closes_31 ?_
      exact cx_lretN X hr hlk (by rw [cs_closeQ, if_neg (by rw [cs_nn]; omega)]) dc_C_closes_34
    · refine lv_lload_n X.1 X.2.1 dc_C_closes_20 rfl (lv_at hl 3 rfl) ?_
      refine cx_lconst (a := 1) X dc_C_closes_21 (by decide +kernel) ?_
      refine cx_ldc2 (a := 1000000000) X gk_C_46 (by decide +kernel) dc_C_closes_22 ?_
      refine cx_cSN (r := .int (jI (jB (1 ≤ r ∧ r ≤ 1000000000)))) (As := [.long (jL (r)), .long (jL (1)), .long (jL (1000000000))]) (rest := []) X B kc_C_isWithin gm_C_48 (c_C_isWithin l u _ r 1 1000000000 (by omega) (by omega) (by omega) (by omega) (by omega) (by omega)) (fun _ _ _ h => h) ⟨(Nat.le_of_ble_eq_true rfl), (Nat.le_of_ble_eq_true rfl)⟩ ⟨(Nat.le_of_ble_eq_true rfl), (Nat.le_of_ble_eq_true rfl)⟩ rfl hl.1 (Nat.le_of_ble_eq_true rfl) dc_C_closes_25 rfl ?_
      refine cx_ifneB (tgt := 35) X dc_C_closes_28 (by decide) (fun c_4 => ?_) (fun c_4 => ?_)
      · refine cx_lconst (a := 0) X dc_C_closes_35 (by decide +kernel) ?_
        refine lv_lstore (lv' := [(5, .long (jL (0))), (4, .ref (ad 14 i)), (0, .ref (ad 0 0)), (1, .int (jI ((i : Int)))), (2, .long (jL (r)))]) X.1 X.2.1 dc_C_closes_36 hl (by decide) rfl (fun ls hl => ?_)
        refine cx_iconst X dc_C_closes_38 ?_
        refine lv_istore (lv' := [(7, .int (jI (0))), (5, .long (jL (0))), (4, .ref (ad 14 i)), (0, .ref (ad 0 0)), (1, .int (jI ((i : Int)))), (2, .long (jL (r)))]) X.1 X.2.1 dc_C_closes_39 hl (by decide) rfl (fun ls hl => ?_)
        have lp_5 : ∀ (n_6 h : Nat) (ls : Array Slot) , (h : Int) ≤ S 1 0 0 → S 1 0 0 - (h : Int) < (n_6 : Int) → lv_has ls 8 [(0, .ref (ad 0 0)), (1, .int (jI ((i : Int)))), (2, .long (jL (r))), (4, .ref (ad 14 i)), (5, .long (jL (cs_pos S i h))), (7, .int (jI ((h : Int))))] → W p l e (cx_R 3 71 0 0) s m args below meth c s.heap [] 0 0 (MQ below (fun _ st_ oc_ t_ => oc_ = .returned (some (.long (jL (cs_closeQ S (i : Int) r)))) ∧ t_.heap = st_.heap) args s 0 0 (fun _ => False)) (F0 m 41 ls []) := by
          intro n_6
          induction n_6 with
          | zero => intro h ls  hi_8 hn_9; exfalso; omega
          | succ n_6 ih_7 =>
            intro h ls  hi_8 hn_9 hl
            have hI6 := cs_pos_b hI i h
            refine lv_iload X.1 X.2.1 dc_C_closes_41 (lv_at hl 5 rfl) ?_
            refine lv_aload_n X.1 X.2.1 dc_C_closes_43 rfl (lv_at hl 0 rfl) ?_
            refine cx_get (v := .int (jI (S 1 0 0))) X B (wC_0 u ad S sc) rfl uw_C 4 (by decide) gf_C_55 rfl dc_C_closes_44 ?_
            refine cx_icmp_ge (tgt := 73) X (by omega) (by omega) (by omega) (by omega) dc_C_closes_47 (by decide) (fun c_10 => ?_) (fun c_10 => ?_)
            · refine lv_lload X.1 X.2.1 dc_C_closes_73 (lv_at hl 4 rfl) ?_
              refine lv_lload_n X.1 X.2.1 dc_C_closes_75 rfl (lv_at hl 2 rfl) ?_
              refine cx_cSN (r := .long (jL (((cs_pos S i h) + r - 1) / r))) (As := [.long (jL (cs_pos S i h)), .long (jL (r))]) (rest := []) X B kc_C_dividedUp gm_C_176 (c_C_dividedUp l u _ (cs_pos S i h) r (by omega) (by omega) (by omega) (by omega)) (fun _ _ _ h => h) ⟨(Nat.le_of_ble_eq_true rfl), (Nat.le_of_ble_eq_true rfl)⟩ ⟨(Nat.le_of_ble_eq_true rfl), (Nat.le_of_ble_eq_true rfl)⟩ rfl hl.1 (Nat.le_of_ble_eq_true rfl) dc_C_closes_76 rfl ?_
              exact cx_lretN X hr hlk (by rw [cs_closeQ, if_pos (by rw [cs_nn]; omega), show (S 1 0 0).toNat = h by omega]; rfl) dc_C_closes_79
            · refine lv_lload X.1 X.2.1 dc_C_closes_50 (lv_at hl 4 rfl) ?_
              refine cx_lconst (a := 0) X dc_C_closes_52 (by decide +kernel) ?_
              refine lv_aload_n X.1 X.2.1 dc_C_closes_53 rfl (lv_at hl 0 rfl) ?_
              refine lv_aload X.1 X.2.1 dc_C_closes_54 (lv_at hl 3 rfl) ?_
              refine lv_iload X.1 X.2.1 dc_C_closes_56 (lv_at hl 5 rfl) ?_
              refine cx_cVN (r := .long (jL (cs_lf S i h))) (As := [.ref (ad 14 i), .int (jI ((h : Int)))]) (rest := [.long (jL (0)), .long (jL (cs_pos S i h))]) X B kc_C_leftInAll gm_C_116 (c_C_leftInAll l u ad S sc hI i h hi (by omega)) (fun _ _ _ h => h) (wC_0 u ad S sc) rfl rfl ⟨(Nat.le_of_ble_eq_true rfl), (Nat.le_of_ble_eq_true rfl)⟩ ⟨(Nat.le_of_ble_eq_true rfl), (Nat.le_of_ble_eq_true rfl)⟩ rfl hl.1 (Nat.le_of_ble_eq_true rfl) dc_C_closes_58 rfl ?_
              have r_11 := cs_lf_b hI i h
              refine cx_max X gm_C_170 (by omega) (by omega) (by omega) (by omega) hl.1 ⟨(Nat.le_of_ble_eq_true rfl), (Nat.le_of_ble_eq_true rfl)⟩ ⟨(Nat.le_of_ble_eq_true rfl), (Nat.le_of_ble_eq_true rfl)⟩ dc_C_closes_61 ?_
              refine cx_ladd X dc_C_closes_64 ?_
              refine lv_lstore (lv' := [(5, .long (jL ((cs_pos S i h) + (if cs_lf S i h < 0 then 0 else cs_lf S i h)))), (0, .ref (ad 0 0)), (1, .int (jI ((i : Int)))), (2, .long (jL (r))), (4, .ref (ad 14 i)), (7, .int (jI ((h : Int))))]) X.1 X.2.1 dc_C_closes_65 hl (by decide) rfl (fun ls hl => ?_)
              refine lv_iinc (v := jI ((h : Int) + 1)) (lv' := [(7, .int (jI ((h : Int) + 1))), (5, .long (jL ((cs_pos S i h) + (if cs_lf S i h < 0 then 0 else cs_lf S i h)))), (0, .ref (ad 0 0)), (1, .int (jI ((i : Int)))), (2, .long (jL (r))), (4, .ref (ad 14 i))]) X.1 X.2.1 dc_C_closes_67 hl (k := 5) rfl (jI_add _ _) (by decide) rfl (fun ls hl => ?_)
              refine lv_goto (tgt := 41) X.1 X.2.1 dc_C_closes_70 (by decide) ?_
              have qq : cs_pos S i (h + 1) = (cs_pos S i h) + (if cs_lf S i h < 0 then 0 else cs_lf S i h) := rfl
              exact ih_7 (h + 1) ls  (by omega) (by omega) (by  exact lv_sub hl [2, 3, 4, 5, 1, 0] rfl)
        exact lp_5 ((S 1 0 0 : Int).toNat + 1) 0 ls  (by omega) (by omega) (by  exact lv_sub hl [3, 4, 5, 2, 1, 0] rfl)
      · refine cx_ldc2 (a := -1) X gk_C_101 (by decide +kernel) dc_C_closes_31 ?_
        exact cx_lretN X hr hlk (by rw [cs_closeQ, if_neg (by rw [cs_nn]; omega)]) dc_C_closes_34
  · refine cx_cVN (As := [.int (jI (a))]) (rest := []) X B kc_C_findStock gm_C_62 (c_C_findStock_0 l u ad S sc hI a (by omega) (by omega) hs_1) (fun _ _ _ h => h) (wC_0 u ad S sc) rfl rfl ⟨(Nat.le_of_ble_eq_true rfl), (Nat.le_of_ble_eq_true rfl)⟩ ⟨(Nat.le_of_ble_eq_true rfl), (Nat.le_of_ble_eq_true rfl)⟩ rfl hl.1 (Nat.le_of_ble_eq_true rfl) dc_C_closes_2 rfl ?_
    refine lv_astoreN (lv' := [(4, .null), (0, .ref (ad 0 0)), (1, .int (jI (a))), (2, .long (jL (r)))]) X.1 X.2.1 dc_C_closes_5 hl (by decide) rfl (fun ls hl => ?_)
    refine lv_aloadN X.1 X.2.1 dc_C_closes_7 (lv_at hl 0 rfl) ?_
    refine lv_ifnullN (tgt := 31) X.1 X.2.1 dc_C_closes_9 (by decide) ?_
    refine cx_ldc2 (a := -1) X gk_C_101 (by decide +kernel) dc_C_closes_31 ?_
    exact cx_lretN X hr hlk (by rw [cs_closeQ, if_neg (by omega)]) dc_C_closes_34
theorem cs_mul_b {S : cs_S} {x : Int} {i : Nat} (h1 : 0 ≤ x ∧ x ≤ 1000000000 * ((S 2 0 0).toNat : Int)) (h5 : 0 ≤ S 12 i 0 ∧ S 12 i 0 ≤ 1000000000 ∧ 0 ≤ S 13 i 0 ∧ S 13 i 0 ≤ S 12 i 0 ∧ 0 ≤ S 14 i 0 ∧ S 14 i 0 ≤ 1 ∧ -1 ≤ S 15 i 0 ∧ S 15 i 0 ≤ 7 ∧ 0 ≤ S 16 i 0 ∧ S 16 i 0 ≤ 100 ∧ 0 ≤ S 17 i 0 ∧ S 17 i 0 ≤ 1000000 ∧ 0 ≤ S 18 i 0 ∧ S 18 i 0 ≤ 1000000) (h2 : 0 ≤ S 0 0 0 ∧ S 0 0 0 ≤ 8 ∧ 0 ≤ S 1 0 0 ∧ S 1 0 0 ≤ 12 ∧ 0 ≤ S 2 0 0 ∧ S 2 0 0 ≤ 200 ∧ 1 ≤ S 3 0 0 ∧ S 3 0 0 ≤ 1000 ∧ 1 ≤ S 4 0 0 ∧ S 4 0 0 ≤ 1000) : 0 ≤ x * S 18 i 0 ∧ x * S 18 i 0 ≤ 200000000000000000 := by
  refine ⟨Int.mul_nonneg h1.1 (by omega), ?_⟩
  have h3 := Int.mul_le_mul (show x ≤ 200000000000 by omega) (show S 18 i 0 ≤ 1000000 by omega) (by omega) (by omega : (0 : Int) ≤ 200000000000)
  omega
set_option maxHeartbeats 4000000 in
set_option maxRecDepth 100000 in
theorem c_C_discard (l : Launch) (u : cx_U) (ad : Nat → Nat → Nat) (S : cs_S) (sc : Nat → Nat → Int) (hI : cs_I S) (a : Int) (a1 : -2147483648 ≤ a) (a2 : a ≤ 2147483647) : cx_N l u mn_C_discard bc_C_discard 3 (some .long) 1 24 [.ref (ad 0 0), .int (jI (a))] (wC u ad S sc) (.long (jL (cs_discQ S a))) := by
  refine cx_N.of (by decide +kernel) (Nat.le_of_ble_eq_true rfl) ?_
  intro p e s m args below meth c ls A X hr hlk B hl
  have X : CallFix p m c bc_C_discard 3 s args GW "CatchShares" := X
  have hl : lv_has ls 3 [(0, .ref (ad 0 0)), (1, .int (jI (a)))] := hl
  have hI1 := hI.1
  have hI5 := hI.2.2.2.2.1
  refine lv_aload_n X.1 X.2.1 dc_C_discard_0 rfl (lv_at hl 0 rfl) ?_
  refine lv_iload_n X.1 X.2.1 dc_C_discard_1 rfl (lv_at hl 1 rfl) ?_
  by_cases hs_1 : 0 ≤ a ∧ a < S 0 0 0
  · obtain ⟨i, rfl⟩ : ∃ i : Nat, a = (i : Int) := ⟨a.toNat, by omega⟩
    have hi : (i : Int) < S 0 0 0 := hs_1.2
    refine cx_cVN (As := [.int (jI (i : Int))]) (rest := []) X B kc_C_findStock gm_C_62 (c_C_findStock l u ad S sc hI i hi) (fun _ _ _ h => h) (wC_0 u ad S sc) rfl rfl ⟨(Nat.le_of_ble_eq_true rfl), (Nat.le_of_ble_eq_true rfl)⟩ ⟨(Nat.le_of_ble_eq_true rfl), (Nat.le_of_ble_eq_true rfl)⟩ rfl hl.1 (Nat.le_of_ble_eq_true rfl) dc_C_discard_2 rfl ?_
    refine lv_astore_n (lv' := [(2, .ref (ad 14 i)), (0, .ref (ad 0 0)), (1, .int (jI ((i : Int))))]) X.1 X.2.1 dc_C_discard_5 rfl hl (by decide) rfl (fun ls hl => ?_)
    refine lv_aload_n X.1 X.2.1 dc_C_discard_6 rfl (lv_at hl 0 rfl) ?_
    refine lv_ifnull X.1 X.2.1 dc_C_discard_7 ?_
    refine lv_aload_n X.1 X.2.1 dc_C_discard_10 rfl (lv_at hl 0 rfl) ?_
    refine cx_get (v := .long (jL (S 17 i 0))) X B (wC_14 u ad S sc hi) rfl uw_S 8 (by decide) gf_C_179 rfl dc_C_discard_11 ?_
    have r_2 := hI5 i
    refine cx_lconst (a := 1) X dc_C_discard_14 (by decide +kernel) ?_
    refine cx_lcmp_ge (tgt := 23) X (by omega) (by omega) (by omega) (by omega) dc_C_discard_15 dc_C_discard_16 (by decide) (fun c_3 => ?_) (fun c_3 => ?_)
    · refine lv_aload_n X.1 X.2.1 dc_C_discard_23 rfl (lv_at hl 1 rfl) ?_
      refine cx_get (v := .ref (ad 4 0)) X B (wC_0 u ad S sc) rfl uw_C 5 (by decide) gf_C_25 rfl dc_C_discard_24 ?_
      refine lv_iload_n X.1 X.2.1 dc_C_discard_27 rfl (lv_at hl 2 rfl) ?_
      refine cx_cVN (r := .long (jL (cs_land S (i : Int) (S 2 0 0).toNat))) (As := [.int (jI ((i : Int)))]) (rest := []) X B kc_L_ofStock gm_C_185 (c_L_ofStock l u ad S sc hI (i : Int) (by omega) (by omega)) (fun _ _ _ h => h) (wC_4 u ad S sc) rfl rfl ⟨(Nat.le_of_ble_eq_true rfl), (Nat.le_of_ble_eq_true rfl)⟩ ⟨(Nat.le_of_ble_eq_true rfl), (Nat.le_of_ble_eq_true rfl)⟩ rfl hl.1 (Nat.le_of_ble_eq_true rfl) dc_C_discard_28 rfl ?_
      have r_4 := cs_mul_b (cs_land_b hI (i : Int) (S 2 0 0).toNat) (hI5 i) hI1
      refine lv_aload_n X.1 X.2.1 dc_C_discard_31 rfl (lv_at hl 0 rfl) ?_
      refine cx_get (v := .long (jL (S 18 i 0))) X B (wC_14 u ad S sc hi) rfl uw_S 9 (by decide) gf_C_182 rfl dc_C_discard_32 ?_
      refine cx_lmul X dc_C_discard_35 ?_
      refine lv_aload_n X.1 X.2.1 dc_C_discard_36 rfl (lv_at hl 0 rfl) ?_
      refine cx_get (v := .long (jL (S 17 i 0))) X B (wC_14 u ad S sc hi) rfl uw_S 8 (by decide) gf_C_179 rfl dc_C_discard_37 ?_
      have r_5 := hI5 i
      refine cx_ldiv X (by omega) (by omega) (by omega) (by omega) dc_C_discard_40 ?_
      exact cx_lretN X hr hlk (by rw [cs_discQ, if_pos (by rw [cs_nn]; omega)]; rfl) dc_C_discard_41
    · refine cx_ldc2 (a := -1) X gk_C_101 (by decide +kernel) dc_C_discard_19 ?_
      exact cx_lretN X hr hlk (by rw [cs_discQ, if_neg (by rw [cs_nn]; omega)]) dc_C_discard_22
  · refine cx_cVN (As := [.int (jI (a))]) (rest := []) X B kc_C_findStock gm_C_62 (c_C_findStock_0 l u ad S sc hI a (by omega) (by omega) hs_1) (fun _ _ _ h => h) (wC_0 u ad S sc) rfl rfl ⟨(Nat.le_of_ble_eq_true rfl), (Nat.le_of_ble_eq_true rfl)⟩ ⟨(Nat.le_of_ble_eq_true rfl), (Nat.le_of_ble_eq_true rfl)⟩ rfl hl.1 (Nat.le_of_ble_eq_true rfl) dc_C_discard_2 rfl ?_
    refine lv_astore_nN (lv' := [(2, .null), (0, .ref (ad 0 0)), (1, .int (jI (a)))]) X.1 X.2.1 dc_C_discard_5 rfl hl (by decide) rfl (fun ls hl => ?_)
    refine lv_aload_nN X.1 X.2.1 dc_C_discard_6 rfl (lv_at hl 0 rfl) ?_
    refine lv_ifnullN (tgt := 19) X.1 X.2.1 dc_C_discard_7 (by decide) ?_
    refine cx_ldc2 (a := -1) X gk_C_101 (by decide +kernel) dc_C_discard_19 ?_
    exact cx_lretN X hr hlk (by rw [cs_discQ, if_neg (by omega)]) dc_C_discard_22
set_option maxHeartbeats 4000000 in
set_option maxRecDepth 100000 in
theorem c_C_sums (l : Launch) (u : cx_U) (ad : Nat → Nat → Nat) (S : cs_S) (sc : Nat → Nat → Int) (hI : cs_I S) (a : Int) (a1 : -2147483648 ≤ a) (a2 : a ≤ 2147483647) : cx_N l u mn_C_sums bc_C_sums 3 (some .boolean) 2 43 [.ref (ad 0 0), .int (jI (a))] (wC u ad S sc) (.int (jI (jB (cs_sumsQ S a)))) := by
  refine cx_N.of (by decide +kernel) (Nat.le_of_ble_eq_true rfl) ?_
  intro p e s m args below meth c ls A X hr hlk B hl
  have X : CallFix p m c bc_C_sums 3 s args GW "CatchShares" := X
  have hl : lv_has ls 3 [(0, .ref (ad 0 0)), (1, .int (jI (a)))] := hl
  have hI1 := hI.1
  have hI5 := hI.2.2.2.2.1
  refine lv_aload_n X.1 X.2.1 dc_C_sums_0 rfl (lv_at hl 0 rfl) ?_
  refine lv_iload_n X.1 X.2.1 dc_C_sums_1 rfl (lv_at hl 1 rfl) ?_
  by_cases hs_1 : 0 ≤ a ∧ a < S 0 0 0
  · obtain ⟨i, rfl⟩ : ∃ i : Nat, a = (i : Int) := ⟨a.toNat, by omega⟩
    have hi : (i : Int) < S 0 0 0 := hs_1.2
    refine cx_cVN (As := [.int (jI (i : Int))]) (rest := []) X B kc_C_findStock gm_C_62 (c_C_findStock l u ad S sc hI i hi) (fun _ _ _ h => h) (wC_0 u ad S sc) rfl rfl ⟨(Nat.le_of_ble_eq_true rfl), (Nat.le_of_ble_eq_true rfl)⟩ ⟨(Nat.le_of_ble_eq_true rfl), (Nat.le_of_ble_eq_true rfl)⟩ rfl hl.1 (Nat.le_of_ble_eq_true rfl) dc_C_sums_2 rfl ?_
    refine lv_astore_n (lv' := [(2, .ref (ad 14 i)), (0, .ref (ad 0 0)), (1, .int (jI ((i : Int))))]) X.1 X.2.1 dc_C_sums_5 rfl hl (by decide) rfl (fun ls hl => ?_)
    refine lv_aload_n X.1 X.2.1 dc_C_sums_6 rfl (lv_at hl 0 rfl) ?_
    refine lv_ifnull X.1 X.2.1 dc_C_sums_7 ?_
    refine lv_aload_n X.1 X.2.1 dc_C_sums_10 rfl (lv_at hl 0 rfl) ?_
    refine cx_get (v := .int (jI (S 14 i 0))) X B (wC_14 u ad S sc hi) rfl uw_S 5 (by decide) gf_C_69 rfl dc_C_sums_11 ?_
    have r_2 := hI5 i
    refine cx_if_eq (tgt := 33) X (by omega) (by omega) dc_C_sums_14 (by decide) (fun c_3 => ?_) (fun c_3 => ?_)
    · refine cx_iconst X dc_C_sums_33 ?_
      exact cx_zretN X hr hlk (by omega) (by omega) (by rw [jB_f (fun q => by have q1 := q.2.2.1; rw [cs_nn] at q1; omega)]) dc_C_sums_34
    · refine lv_aload_n X.1 X.2.1 dc_C_sums_17 rfl (lv_at hl 0 rfl) ?_
      refine cx_cVN (r := .long (jL (cs_sum (S 21 i) 12))) (As := []) (rest := []) X B kc_S_allShares gm_C_124 (c_S_allShares l u ad S sc hI i hi) (fun _ _ _ h => h) (wC_14 u ad S sc hi) rfl rfl ⟨(Nat.le_of_ble_eq_true rfl), (Nat.le_of_ble_eq_true rfl)⟩ ⟨(Nat.le_of_ble_eq_true rfl), (Nat.le_of_ble_eq_true rfl)⟩ rfl hl.1 (Nat.le_of_ble_eq_true rfl) dc_C_sums_18 rfl ?_
      refine lv_aload_n X.1 X.2.1 dc_C_sums_21 rfl (lv_at hl 0 rfl) ?_
      refine cx_get (v := .long (jL (S 22 i 0))) X B (wC_14 u ad S sc hi) rfl uw_S 10 (by decide) gf_C_189 rfl dc_C_sums_22 ?_
      refine cx_lcmpR_ne (tgt := 33) X dc_C_sums_25 dc_C_sums_26 (by decide) (fun cr_4 => ?_) (fun cr_4 => ?_)
      · refine cx_iconst X dc_C_sums_33 ?_
        exact cx_zretN X hr hlk (by omega) (by omega) (by rw [jB_f (fun q => cr_4 q.2.2.2)]) dc_C_sums_34
      · refine cx_iconst X dc_C_sums_29 ?_
        refine lv_goto (tgt := 34) X.1 X.2.1 dc_C_sums_30 (by decide) ?_
        exact cx_zretN X hr hlk (by omega) (by omega) (by rw [jB_t ⟨by omega, by omega, by rw [cs_nn]; omega, cr_4⟩]) dc_C_sums_34
  · refine cx_cVN (As := [.int (jI (a))]) (rest := []) X B kc_C_findStock gm_C_62 (c_C_findStock_0 l u ad S sc hI a (by omega) (by omega) hs_1) (fun _ _ _ h => h) (wC_0 u ad S sc) rfl rfl ⟨(Nat.le_of_ble_eq_true rfl), (Nat.le_of_ble_eq_true rfl)⟩ ⟨(Nat.le_of_ble_eq_true rfl), (Nat.le_of_ble_eq_true rfl)⟩ rfl hl.1 (Nat.le_of_ble_eq_true rfl) dc_C_sums_2 rfl ?_
    refine lv_astore_nN (lv' := [(2, .null), (0, .ref (ad 0 0)), (1, .int (jI (a)))]) X.1 X.2.1 dc_C_sums_5 rfl hl (by decide) rfl (fun ls hl => ?_)
    refine lv_aload_nN X.1 X.2.1 dc_C_sums_6 rfl (lv_at hl 0 rfl) ?_
    refine lv_ifnullN (tgt := 33) X.1 X.2.1 dc_C_sums_7 (by decide) ?_
    refine cx_iconst X dc_C_sums_33 ?_
    exact cx_zretN X hr hlk (by omega) (by omega) (by rw [jB_f (fun q => by have q1 := q.1; have q2 := q.2.1; omega)]) dc_C_sums_34
