/-- the landings of a stock and a holder told up to a day, among the first n -/
def cs_told (S : cs_S) (st h : Int) (on : Int) : Nat → Int := cs_sum (fun k => if S 7 k 0 = st ∧ S 8 k 0 = h ∧ S 10 k 0 ≤ on then S 9 k 0 else 0)
def cs_land (S : cs_S) (st : Int) : Nat → Int := cs_sum (fun k => if S 7 k 0 = st then S 9 k 0 else 0)
theorem cs_told_s (S : cs_S) (st h on : Int) (n : Nat) : cs_told S st h on (n + 1) = cs_told S st h on n + (if S 7 n 0 = st ∧ S 8 n 0 = h ∧ S 10 n 0 ≤ on then S 9 n 0 else 0) := rfl
theorem cs_land_s (S : cs_S) (st : Int) (n : Nat) : cs_land S st (n + 1) = cs_land S st n + (if S 7 n 0 = st then S 9 n 0 else 0) := rfl
set_option maxHeartbeats 4000000 in
set_option maxRecDepth 100000 in
theorem c_S_sumOf (l : Launch) (u : cx_U) (w : cx_W) (k i a : Nat) (f : Nat → Int) (he : w k i = some (a, .inl (u.2 1, 12, .inr (.inl (fun x => jL (f x)))))) : cx_N l u mn_S_sumOf bc_S_sumOf 4 (some .long) 0 0 [.ref (a)] (w) (.long (jL (cs_sum f 12))) := by
  refine cx_N.of (by decide +kernel) (Nat.le_of_ble_eq_true rfl) ?_
  intro p e s m args below meth c ls A X hr hlk B hl
  have X : CallFix p m c bc_S_sumOf 4 s args GW "CatchShares$Stock" := X
  have hl : lv_has ls 4 [(0, .ref (a))] := hl
  refine cx_lconst (a := 0) X dc_S_sumOf_0 (by decide +kernel) ?_
  refine lv_lstore_n (lv' := [(1, .long (jL (0))), (0, .ref (a))]) X.1 X.2.1 dc_S_sumOf_1 rfl hl (by decide) rfl (fun ls hl => ?_)
  refine cx_iconst X dc_S_sumOf_2 ?_
  refine lv_istore_n (lv' := [(3, .int (jI (0))), (1, .long (jL (0))), (0, .ref (a))]) X.1 X.2.1 dc_S_sumOf_3 rfl hl (by decide) rfl (fun ls hl => ?_)
  have lp_1 : ∀ (n_2 h : Nat) (ls : Array Slot) , (h : Int) ≤ 12 → 12 - (h : Int) < (n_2 : Int) → lv_has ls 4 [(0, .ref (a)), (1, .long (jL (cs_sum f h))), (3, .int (jI ((h : Int))))] → W p l e (cx_R 0 0 0 0) s m args below meth c s.heap [] 0 0 (MQ below (fun _ st_ oc_ t_ => oc_ = .returned (some (.long (jL (cs_sum f 12)))) ∧ t_.heap = st_.heap) args s 0 0 (fun _ => False)) (F0 m 4 ls []) := by
    intro n_2
    induction n_2 with
    | zero => intro h ls  hi_4 hn_5; exfalso; omega
    | succ n_2 ih_3 =>
      intro h ls  hi_4 hn_5 hl
      refine lv_iload_n X.1 X.2.1 dc_S_sumOf_4 rfl (lv_at hl 2 rfl) ?_
      refine lv_aload_n X.1 X.2.1 dc_S_sumOf_5 rfl (lv_at hl 0 rfl) ?_
      refine cx_alen (n := 12) X B 1 he rfl (by show Int32.ofNat 12 = jI 12; decide +kernel) dc_S_sumOf_6 ?_
      refine cx_icmp_ge (tgt := 22) X (by omega) (by omega) (by omega) (by omega) dc_S_sumOf_7 (by decide) (fun c_6 => ?_) (fun c_6 => ?_)
      · refine lv_lload_n X.1 X.2.1 dc_S_sumOf_22 rfl (lv_at hl 1 rfl) ?_
        exact cx_lretN X hr hlk (by rw [show h = 12 by omega]) dc_S_sumOf_23
      · refine lv_lload_n X.1 X.2.1 dc_S_sumOf_10 rfl (lv_at hl 1 rfl) ?_
        refine lv_aload_n X.1 X.2.1 dc_S_sumOf_11 rfl (lv_at hl 0 rfl) ?_
        refine lv_iload_n X.1 X.2.1 dc_S_sumOf_12 rfl (lv_at hl 2 rfl) ?_
        refine cx_lald X B he (h) (by omega) (by omega) (by decide) dc_S_sumOf_13 ?_
        refine cx_ladd X dc_S_sumOf_14 ?_
        refine lv_lstore_n (lv' := [(1, .long (jL ((cs_sum f h) + (f h)))), (0, .ref (a)), (3, .int (jI ((h : Int))))]) X.1 X.2.1 dc_S_sumOf_15 rfl hl (by decide) rfl (fun ls hl => ?_)
        refine lv_iinc (v := jI ((h : Int) + 1)) (lv' := [(3, .int (jI ((h : Int) + 1))), (1, .long (jL ((cs_sum f h) + (f h)))), (0, .ref (a))]) X.1 X.2.1 dc_S_sumOf_16 hl (k := 2) rfl (jI_add _ _) (by decide) rfl (fun ls hl => ?_)
        refine lv_goto (tgt := 4) X.1 X.2.1 dc_S_sumOf_19 (by decide) ?_
        exact ih_3 (h + 1) ls  (by omega) (by omega) (by  exact lv_sub hl [2, 1, 0] rfl)
  exact lp_1 ((12 : Int).toNat + 1) 0 ls  (by omega) (by omega) (by  exact lv_sub hl [2, 1, 0] rfl)
set_option maxHeartbeats 4000000 in
set_option maxRecDepth 100000 in
theorem c_S_allWeights (l : Launch) (u : cx_U) (ad : Nat → Nat → Nat) (S : cs_S) (sc : Nat → Nat → Int) (hI : cs_I S) (i : Nat) (hi : (i : Int) < S 0 0 0) : cx_N l u mn_S_allWeights bc_S_allWeights 1 (some .long) 1 23 [.ref (ad 14 i)] (wC u ad S sc) (.long (jL (cs_sum (S 20 i) 12))) := by
  refine cx_N.of (by decide +kernel) (Nat.le_of_ble_eq_true rfl) ?_
  intro p e s m args below meth c ls A X hr hlk B hl
  have X : CallFix p m c bc_S_allWeights 1 s args GW "CatchShares$Stock" := X
  have hl : lv_has ls 1 [(0, .ref (ad 14 i))] := hl
  refine lv_aload_n X.1 X.2.1 dc_S_allWeights_0 rfl (lv_at hl 0 rfl) ?_
  refine cx_get (v := .ref (ad 15 i)) X B (wC_14 u ad S sc hi) rfl uw_S 2 (by decide) gf_S_19 rfl dc_S_allWeights_1 ?_
  refine cx_cSN (r := .long (jL (cs_sum (S 20 i) 12))) (As := [.ref (ad 15 i)]) (rest := []) X B kc_S_sumOf gm_S_32 (c_S_sumOf l u _ 15 i (ad 15 i) (S 20 i) (wC_15 u ad S sc hi)) (fun _ _ _ h => h) ⟨(Nat.le_of_ble_eq_true rfl), (Nat.le_of_ble_eq_true rfl)⟩ ⟨(Nat.le_of_ble_eq_true rfl), (Nat.le_of_ble_eq_true rfl)⟩ rfl hl.1 (Nat.le_of_ble_eq_true rfl) dc_S_allWeights_4 rfl ?_
  exact cx_lretN X hr hlk (rfl) dc_S_allWeights_7
set_option maxHeartbeats 4000000 in
set_option maxRecDepth 100000 in
theorem c_S_allShares (l : Launch) (u : cx_U) (ad : Nat → Nat → Nat) (S : cs_S) (sc : Nat → Nat → Int) (hI : cs_I S) (i : Nat) (hi : (i : Int) < S 0 0 0) : cx_N l u mn_S_allShares bc_S_allShares 1 (some .long) 1 23 [.ref (ad 14 i)] (wC u ad S sc) (.long (jL (cs_sum (S 21 i) 12))) := by
  refine cx_N.of (by decide +kernel) (Nat.le_of_ble_eq_true rfl) ?_
  intro p e s m args below meth c ls A X hr hlk B hl
  have X : CallFix p m c bc_S_allShares 1 s args GW "CatchShares$Stock" := X
  have hl : lv_has ls 1 [(0, .ref (ad 14 i))] := hl
  refine lv_aload_n X.1 X.2.1 dc_S_allShares_0 rfl (lv_at hl 0 rfl) ?_
  refine cx_get (v := .ref (ad 16 i)) X B (wC_14 u ad S sc hi) rfl uw_S 3 (by decide) gf_S_23 rfl dc_S_allShares_1 ?_
  refine cx_cSN (r := .long (jL (cs_sum (S 21 i) 12))) (As := [.ref (ad 16 i)]) (rest := []) X B kc_S_sumOf gm_S_32 (c_S_sumOf l u _ 16 i (ad 16 i) (S 21 i) (wC_16 u ad S sc hi)) (fun _ _ _ h => h) ⟨(Nat.le_of_ble_eq_true rfl), (Nat.le_of_ble_eq_true rfl)⟩ ⟨(Nat.le_of_ble_eq_true rfl), (Nat.le_of_ble_eq_true rfl)⟩ rfl hl.1 (Nat.le_of_ble_eq_true rfl) dc_S_allShares_4 rfl ?_
  exact cx_lretN X hr hlk (rfl) dc_S_allShares_7
set_option maxHeartbeats 4000000 in
set_option maxRecDepth 100000 in
theorem c_L_toldUpTo (l : Launch) (u : cx_U) (ad : Nat → Nat → Nat) (S : cs_S) (sc : Nat → Nat → Int) (hI : cs_I S) (st h on : Int) (s1 : -2147483648 ≤ st) (s2 : st ≤ 2147483647) (h1 : -2147483648 ≤ h) (h2 : h ≤ 2147483647) (o1 : -2147483648 ≤ on) (o2 : on ≤ 2147483647) : cx_N l u mn_L_toldUpTo bc_L_toldUpTo 7 (some .long) 0 0 [.ref (ad 4 0), .int (jI (st)), .int (jI (h)), .int (jI (on))] (wC u ad S sc) (.long (jL (cs_told S st h on (S 2 0 0).toNat))) := by
  refine cx_N.of (by decide +kernel) (Nat.le_of_ble_eq_true rfl) ?_
  intro p e s m args below meth c ls A X hr hlk B hl
  have X : CallFix p m c bc_L_toldUpTo 7 s args GW "CatchShares$Landings" := X
  have hl : lv_has ls 7 [(0, .ref (ad 4 0)), (1, .int (jI (st))), (2, .int (jI (h))), (3, .int (jI (on)))] := hl
  have hI1 := hI.1
  have hI3 := hI.2.2.1
  refine cx_lconst (a := 0) X dc_L_toldUpTo_0 (by decide +kernel) ?_
  refine lv_lstore (lv' := [(4, .long (jL (0))), (0, .ref (ad 4 0)), (1, .int (jI (st))), (2, .int (jI (h))), (3, .int (jI (on)))]) X.1 X.2.1 dc_L_toldUpTo_1 hl (by decide) rfl (fun ls hl => ?_)
  refine cx_iconst X dc_L_toldUpTo_3 ?_
  refine lv_istore (lv' := [(6, .int (jI (0))), (4, .long (jL (0))), (0, .ref (ad 4 0)), (1, .int (jI (st))), (2, .int (jI (h))), (3, .int (jI (on)))]) X.1 X.2.1 dc_L_toldUpTo_4 hl (by decide) rfl (fun ls hl => ?_)
  have lp_1 : ∀ (n_2 k : Nat) (ls : Array Slot) , (k : Int) ≤ S 2 0 0 → S 2 0 0 - (k : Int) < (n_2 : Int) → lv_has ls 7 [(0, .ref (ad 4 0)), (1, .int (jI (st))), (2, .int (jI (h))), (3, .int (jI (on))), (4, .long (jL (cs_told S st h on k))), (6, .int (jI ((k : Int))))] → W p l e (cx_R 0 0 0 0) s m args below meth c s.heap [] 0 0 (MQ below (fun _ st_ oc_ t_ => oc_ = .returned (some (.long (jL (cs_told S st h on (S 2 0 0).toNat)))) ∧ t_.heap = st_.heap) args s 0 0 (fun _ => False)) (F0 m 6 ls []) := by
    intro n_2
    induction n_2 with
    | zero => intro k ls  hi_4 hn_5; exfalso; omega
    | succ n_2 ih_3 =>
      intro k ls  hi_4 hn_5 hl
      have hI3 := hI3 k
      refine lv_iload X.1 X.2.1 dc_L_toldUpTo_6 (lv_at hl 5 rfl) ?_
      refine lv_aload_n X.1 X.2.1 dc_L_toldUpTo_8 rfl (lv_at hl 0 rfl) ?_
      refine cx_get (v := .int (jI (S 2 0 0))) X B (wC_4 u ad S sc) rfl uw_L 4 (by decide) gf_L_25 rfl dc_L_toldUpTo_9 ?_
      refine cx_icmp_ge (tgt := 66) X (by omega) (by omega) (by omega) (by omega) dc_L_toldUpTo_12 (by decide) (fun c_6 => ?_) (fun c_6 => ?_)
      · refine lv_lload X.1 X.2.1 dc_L_toldUpTo_66 (lv_at hl 4 rfl) ?_
        exact cx_lretN X hr hlk (by rw [show (S 2 0 0).toNat = k by omega]) dc_L_toldUpTo_68
      · refine lv_aload_n X.1 X.2.1 dc_L_toldUpTo_15 rfl (lv_at hl 0 rfl) ?_
        refine cx_get (v := .ref (ad 5 0)) X B (wC_4 u ad S sc) rfl uw_L 0 (by decide) gf_L_9 rfl dc_L_toldUpTo_16 ?_
        refine lv_iload X.1 X.2.1 dc_L_toldUpTo_19 (lv_at hl 5 rfl) ?_
        refine cx_iald X B (wC_5 u ad S sc) (k) (by omega) (by omega) (by decide) dc_L_toldUpTo_21 ?_
        refine lv_iload_n X.1 X.2.1 dc_L_toldUpTo_22 rfl (lv_at hl 1 rfl) ?_
        refine cx_icmp_ne (tgt := 60) X (by omega) (by omega) (by omega) (by omega) dc_L_toldUpTo_23 (by decide) (fun c_7 => ?_) (fun c_7 => ?_)
        · refine lv_iinc (v := jI ((k : Int) + 1)) (lv' := [(6, .int (jI ((k : Int) + 1))), (0, .ref (ad 4 0)), (1, .int (jI (st))), (2, .int (jI (h))), (3, .int (jI (on))), (4, .long (jL (cs_told S st h on k)))]) X.1 X.2.1 dc_L_toldUpTo_60 hl (k := 5) rfl (jI_add _ _) (by decide) rfl (fun ls hl => ?_)
          refine lv_goto (tgt := 6) X.1 X.2.1 dc_L_toldUpTo_63 (by decide) ?_
          have qq : cs_told S st h on (k + 1) = cs_told S st h on k := by rw [cs_told_s, if_neg (by omega)]; omega
          exact ih_3 (k + 1) ls  (by omega) (by omega) (by rw [qq]; exact lv_sub hl [1, 2, 3, 4, 5, 0] rfl)
        · refine lv_aload_n X.1 X.2.1 dc_L_toldUpTo_26 rfl (lv_at hl 0 rfl) ?_
          refine cx_get (v := .ref (ad 6 0)) X B (wC_4 u ad S sc) rfl uw_L 1 (by decide) gf_L_15 rfl dc_L_toldUpTo_27 ?_
          refine lv_iload X.1 X.2.1 dc_L_toldUpTo_30 (lv_at hl 5 rfl) ?_
          refine cx_iald X B (wC_6 u ad S sc) (k) (by omega) (by omega) (by decide) dc_L_toldUpTo_32 ?_
          refine lv_iload_n X.1 X.2.1 dc_L_toldUpTo_33 rfl (lv_at hl 2 rfl) ?_
          refine cx_icmp_ne (tgt := 60) X (by omega) (by omega) (by omega) (by omega) dc_L_toldUpTo_34 (by decide) (fun c_8 => ?_) (fun c_8 => ?_)
          · refine lv_iinc (v := jI ((k : Int) + 1)) (lv' := [(6, .int (jI ((k : Int) + 1))), (0, .ref (ad 4 0)), (1, .int (jI (st))), (2, .int (jI (h))), (3, .int (jI (on))), (4, .long (jL (cs_told S st h on k)))]) X.1 X.2.1 dc_L_toldUpTo_60 hl (k := 5) rfl (jI_add _ _) (by decide) rfl (fun ls hl => ?_)
            refine lv_goto (tgt := 6) X.1 X.2.1 dc_L_toldUpTo_63 (by decide) ?_
            have qq : cs_told S st h on (k + 1) = cs_told S st h on k := by rw [cs_told_s, if_neg (by omega)]; omega
            exact ih_3 (k + 1) ls  (by omega) (by omega) (by rw [qq]; exact lv_sub hl [1, 2, 3, 4, 5, 0] rfl)
          · refine lv_aload_n X.1 X.2.1 dc_L_toldUpTo_37 rfl (lv_at hl 0 rfl) ?_
            refine cx_get (v := .ref (ad 8 0)) X B (wC_4 u ad S sc) rfl uw_L 3 (by decide) gf_L_22 rfl dc_L_toldUpTo_38 ?_
            refine lv_iload X.1 X.2.1 dc_L_toldUpTo_41 (lv_at hl 5 rfl) ?_
            refine cx_iald X B (wC_8 u ad S sc) (k) (by omega) (by omega) (by decide) dc_L_toldUpTo_43 ?_
            refine lv_iload_n X.1 X.2.1 dc_L_toldUpTo_44 rfl (lv_at hl 3 rfl) ?_
            refine cx_icmp_gt (tgt := 60) X (by omega) (by omega) (by omega) (by omega) dc_L_toldUpTo_45 (by decide) (fun c_9 => ?_) (fun c_9 => ?_)
            · refine lv_iinc (v := jI ((k : Int) + 1)) (lv' := [(6, .int (jI ((k : Int) + 1))), (0, .ref (ad 4 0)), (1, .int (jI (st))), (2, .int (jI (h))), (3, .int (jI (on))), (4, .long (jL (cs_told S st h on k)))]) X.1 X.2.1 dc_L_toldUpTo_60 hl (k := 5) rfl (jI_add _ _) (by decide) rfl (fun ls hl => ?_)
              refine lv_goto (tgt := 6) X.1 X.2.1 dc_L_toldUpTo_63 (by decide) ?_
              have qq : cs_told S st h on (k + 1) = cs_told S st h on k := by rw [cs_told_s, if_neg (by omega)]; omega
              exact ih_3 (k + 1) ls  (by omega) (by omega) (by rw [qq]; exact lv_sub hl [1, 2, 3, 4, 5, 0] rfl)
            · refine lv_lload X.1 X.2.1 dc_L_toldUpTo_48 (lv_at hl 4 rfl) ?_
              refine lv_aload_n X.1 X.2.1 dc_L_toldUpTo_50 rfl (lv_at hl 0 rfl) ?_
              refine cx_get (v := .ref (ad 7 0)) X B (wC_4 u ad S sc) rfl uw_L 2 (by decide) gf_L_18 rfl dc_L_toldUpTo_51 ?_
              refine lv_iload X.1 X.2.1 dc_L_toldUpTo_54 (lv_at hl 5 rfl) ?_
              refine cx_lald X B (wC_7 u ad S sc) (k) (by omega) (by omega) (by decide) dc_L_toldUpTo_56 ?_
              refine cx_ladd X dc_L_toldUpTo_57 ?_
              refine lv_lstore (lv' := [(4, .long (jL ((cs_told S st h on k) + (S 9 k 0)))), (0, .ref (ad 4 0)), (1, .int (jI (st))), (2, .int (jI (h))), (3, .int (jI (on))), (6, .int (jI ((k : Int))))]) X.1 X.2.1 dc_L_toldUpTo_58 hl (by decide) rfl (fun ls hl => ?_)
              refine lv_iinc (v := jI ((k : Int) + 1)) (lv' := [(6, .int (jI ((k : Int) + 1))), (4, .long (jL ((cs_told S st h on k) + (S 9 k 0)))), (0, .ref (ad 4 0)), (1, .int (jI (st))), (2, .int (jI (h))), (3, .int (jI (on)))]) X.1 X.2.1 dc_L_toldUpTo_60 hl (k := 5) rfl (jI_add _ _) (by decide) rfl (fun ls hl => ?_)
              refine lv_goto (tgt := 6) X.1 X.2.1 dc_L_toldUpTo_63 (by decide) ?_
              have qq : cs_told S st h on (k + 1) = (cs_told S st h on k) + (S 9 k 0) := by rw [cs_told_s, if_pos ⟨by omega, by omega, by omega⟩]
              exact ih_3 (k + 1) ls  (by omega) (by omega) (by rw [qq]; exact lv_sub hl [2, 3, 4, 5, 1, 0] rfl)
  exact lp_1 ((S 2 0 0 : Int).toNat + 1) 0 ls  (by omega) (by omega) (by  exact lv_sub hl [2, 3, 4, 5, 1, 0] rfl)
set_option maxHeartbeats 4000000 in
set_option maxRecDepth 100000 in
theorem c_L_ofStock (l : Launch) (u : cx_U) (ad : Nat → Nat → Nat) (S : cs_S) (sc : Nat → Nat → Int) (hI : cs_I S) (st : Int) (s1 : -2147483648 ≤ st) (s2 : st ≤ 2147483647) : cx_N l u mn_L_ofStock bc_L_ofStock 5 (some .long) 0 0 [.ref (ad 4 0), .int (jI (st))] (wC u ad S sc) (.long (jL (cs_land S st (S 2 0 0).toNat))) := by
  refine cx_N.of (by decide +kernel) (Nat.le_of_ble_eq_true rfl) ?_
  intro p e s m args below meth c ls A X hr hlk B hl
  have X : CallFix p m c bc_L_ofStock 5 s args GW "CatchShares$Landings" := X
  have hl : lv_has ls 5 [(0, .ref (ad 4 0)), (1, .int (jI (st)))] := hl
  have hI1 := hI.1
  have hI3 := hI.2.2.1
  refine cx_lconst (a := 0) X dc_L_ofStock_0 (by decide +kernel) ?_
  refine lv_lstore_n (lv' := [(2, .long (jL (0))), (0, .ref (ad 4 0)), (1, .int (jI (st)))]) X.1 X.2.1 dc_L_ofStock_1 rfl hl (by decide) rfl (fun ls hl => ?_)
  refine cx_iconst X dc_L_ofStock_2 ?_
  refine lv_istore (lv' := [(4, .int (jI (0))), (2, .long (jL (0))), (0, .ref (ad 4 0)), (1, .int (jI (st)))]) X.1 X.2.1 dc_L_ofStock_3 hl (by decide) rfl (fun ls hl => ?_)
  have lp_1 : ∀ (n_2 k : Nat) (ls : Array Slot) , (k : Int) ≤ S 2 0 0 → S 2 0 0 - (k : Int) < (n_2 : Int) → lv_has ls 5 [(0, .ref (ad 4 0)), (1, .int (jI (st))), (2, .long (jL (cs_land S st k))), (4, .int (jI ((k : Int))))] → W p l e (cx_R 0 0 0 0) s m args below meth c s.heap [] 0 0 (MQ below (fun _ st_ oc_ t_ => oc_ = .returned (some (.long (jL (cs_land S st (S 2 0 0).toNat)))) ∧ t_.heap = st_.heap) args s 0 0 (fun _ => False)) (F0 m 5 ls []) := by
    intro n_2
    induction n_2 with
    | zero => intro k ls  hi_4 hn_5; exfalso; omega
    | succ n_2 ih_3 =>
      intro k ls  hi_4 hn_5 hl
      have hI3 := hI3 k
      refine lv_iload X.1 X.2.1 dc_L_ofStock_5 (lv_at hl 3 rfl) ?_
      refine lv_aload_n X.1 X.2.1 dc_L_ofStock_7 rfl (lv_at hl 0 rfl) ?_
      refine cx_get (v := .int (jI (S 2 0 0))) X B (wC_4 u ad S sc) rfl uw_L 4 (by decide) gf_L_25 rfl dc_L_ofStock_8 ?_
      refine cx_icmp_ge (tgt := 41) X (by omega) (by omega) (by omega) (by omega) dc_L_ofStock_11 (by decide) (fun c_6 => ?_) (fun c_6 => ?_)
      · refine lv_lload_n X.1 X.2.1 dc_L_ofStock_41 rfl (lv_at hl 2 rfl) ?_
        exact cx_lretN X hr hlk (by rw [show (S 2 0 0).toNat = k by omega]) dc_L_ofStock_42
      · refine lv_aload_n X.1 X.2.1 dc_L_ofStock_14 rfl (lv_at hl 0 rfl) ?_
        refine cx_get (v := .ref (ad 5 0)) X B (wC_4 u ad S sc) rfl uw_L 0 (by decide) gf_L_9 rfl dc_L_ofStock_15 ?_
        refine lv_iload X.1 X.2.1 dc_L_ofStock_18 (lv_at hl 3 rfl) ?_
        refine cx_iald X B (wC_5 u ad S sc) (k) (by omega) (by omega) (by decide) dc_L_ofStock_20 ?_
        refine lv_iload_n X.1 X.2.1 dc_L_ofStock_21 rfl (lv_at hl 1 rfl) ?_
        refine cx_icmp_ne (tgt := 35) X (by omega) (by omega) (by omega) (by omega) dc_L_ofStock_22 (by decide) (fun c_7 => ?_) (fun c_7 => ?_)
        · refine lv_iinc (v := jI ((k : Int) + 1)) (lv' := [(4, .int (jI ((k : Int) + 1))), (0, .ref (ad 4 0)), (1, .int (jI (st))), (2, .long (jL (cs_land S st k)))]) X.1 X.2.1 dc_L_ofStock_35 hl (k := 3) rfl (jI_add _ _) (by decide) rfl (fun ls hl => ?_)
          refine lv_goto (tgt := 5) X.1 X.2.1 dc_L_ofStock_38 (by decide) ?_
          have qq : cs_land S st (k + 1) = cs_land S st k := by rw [cs_land_s, if_neg (by omega)]; omega
          exact ih_3 (k + 1) ls  (by omega) (by omega) (by rw [qq]; exact lv_sub hl [1, 2, 3, 0] rfl)
        · refine lv_lload_n X.1 X.2.1 dc_L_ofStock_25 rfl (lv_at hl 2 rfl) ?_
          refine lv_aload_n X.1 X.2.1 dc_L_ofStock_26 rfl (lv_at hl 0 rfl) ?_
          refine cx_get (v := .ref (ad 7 0)) X B (wC_4 u ad S sc) rfl uw_L 2 (by decide) gf_L_18 rfl dc_L_ofStock_27 ?_
          refine lv_iload X.1 X.2.1 dc_L_ofStock_30 (lv_at hl 3 rfl) ?_
          refine cx_lald X B (wC_7 u ad S sc) (k) (by omega) (by omega) (by decide) dc_L_ofStock_32 ?_
          refine cx_ladd X dc_L_ofStock_33 ?_
          refine lv_lstore_n (lv' := [(2, .long (jL ((cs_land S st k) + (S 9 k 0)))), (0, .ref (ad 4 0)), (1, .int (jI (st))), (4, .int (jI ((k : Int))))]) X.1 X.2.1 dc_L_ofStock_34 rfl hl (by decide) rfl (fun ls hl => ?_)
          refine lv_iinc (v := jI ((k : Int) + 1)) (lv' := [(4, .int (jI ((k : Int) + 1))), (2, .long (jL ((cs_land S st k) + (S 9 k 0)))), (0, .ref (ad 4 0)), (1, .int (jI (st)))]) X.1 X.2.1 dc_L_ofStock_35 hl (k := 3) rfl (jI_add _ _) (by decide) rfl (fun ls hl => ?_)
          refine lv_goto (tgt := 5) X.1 X.2.1 dc_L_ofStock_38 (by decide) ?_
          have qq : cs_land S st (k + 1) = (cs_land S st k) + (S 9 k 0) := by rw [cs_land_s, if_pos (by omega)]
          exact ih_3 (k + 1) ls  (by omega) (by omega) (by rw [qq]; exact lv_sub hl [2, 3, 1, 0] rfl)
  exact lp_1 ((S 2 0 0 : Int).toNat + 1) 0 ls  (by omega) (by omega) (by  exact lv_sub hl [2, 3, 1, 0] rfl)
