set_option maxHeartbeats 4000000 in
set_option maxRecDepth 100000 in
theorem lw_loop {p : Program} {l : Launch} {e : Env} {s : State} {m : MethodId} {below : List Frame} {meth : Method} {c : Code} {u : cx_U} {b L : Nat} {xs : Nat → Int32} (X : CallFix p m c bc_W_law 4 s #[Value.ref b] GW "CatchSharesLaw") (hX : va_X b L xs s s.heap) (hbl : b < s.heap.size) (hL : L ≤ 4096) (hr : meth.sig.returnType = ret) (hlk : meth.locks = false) : ∀ (n k : Nat), 8 * k ≤ L → L < 8 * (k + n) → lw_Go p l e s m below meth c u b k k 18 := by
  intro n
  induction n with
  | zero => intro k h1 h2; exfalso; omega
  | succ n ih =>
    intro k hk1 hk2 ad ad2 S sc sc2 H locs ls K B hl
    refine lv_iload_n X.1 X.2.1 dc_W_law_18 rfl (lv_at hl 3 rfl) ?_
    refine lv_aload_n X.1 X.2.1 dc_W_law_19 rfl (lv_at hl 0 rfl) ?_
    refine va_slen X.1 X.2.1 hX hbl (Nat.not_le.mpr hbl) B.2.2.2.1 dc_W_law_20 ?_
    rw [show Int32.ofNat L = jI (L : Int) from rfl]
    refine cx_bipush X dc_W_law_21 (by decide +kernel) ?_
    refine cx_isub X dc_W_law_23 ?_
    refine cx_icmp_gt (tgt := 1361) X (by omega) (by omega) (by omega) (by omega) dc_W_law_24 (by decide) (fun hc => ?_) (fun hc => ?_)
    · refine cx_iconst X dc_W_law_1361 ?_
      rw [jI_1]
      refine va_forget (fun q hq => B.2.2.2.1.2.2 q hq) ?_
      refine W.widen (k := 600000) (n := 7302250) (by omega) (by omega) ?_
      exact lw_ret X.1 X.2.1 hr hlk dc_W_law_1362
    · have hk : 8 * k + 8 ≤ L := by omega
      have kk : lw_Go p l e s m below meth c u b k (k + 1) 1355 := by
        intro ad ad2 S sc sc2 H locs ls K B hl
        refine lv_iinc (v := jI (8 * (k : Int) + 8)) (lv' := [(3, .int (jI (8 * (k : Int) + 8))), (0, .ref b), (1, .ref (ad 0 0)), (2, .ref (ad2 20 0))]) X.1 X.2.1 dc_W_law_1355 hl (k := 3) rfl (jI_add _ _) (by decide) rfl (fun ls hl => ?_)
        rw [show 8 * (k : Int) + 8 = 8 * ((k + 1 : Nat) : Int) by omega] at hl
        refine lv_goto (tgt := 18) X.1 X.2.1 dc_W_law_1358 (by decide) ?_
        exact ih (k + 1) (by omega) (by omega) ad ad2 S sc sc2 H locs ls K B (lv_sub hl [1, 2, 3, 0] rfl)
      obtain ⟨a0, a01, a02, ea0⟩ := jI_R (xs (8 * k))
      refine lv_aload_n X.1 X.2.1 dc_W_law_27 rfl (lv_at hl 0 rfl) ?_
      refine lv_iload_n X.1 X.2.1 dc_W_law_28 rfl (lv_at hl 3 rfl) ?_
      refine lw_sld X B hX hbl (j := 8 * k) (by omega) (by omega) hL ea0 dc_W_law_29 ?_
      refine cx_bipush X dc_W_law_30 (by decide +kernel) ?_
      refine lv_iand X.1 X.2.1 dc_W_law_32 ?_
      obtain ⟨q, hq, eq⟩ := lw_31 (jI a0)
      rw [eq]
      rcases (show q = 0 ∨ q = 1 ∨ q = 2 ∨ q = 3 ∨ q = 4 ∨ q = 5 ∨ q = 6 ∨ q = 7 ∨ q = 8 ∨ q = 9 ∨ q = 10 ∨ q = 11 ∨ q = 12 ∨ q = 13 ∨ q = 14 ∨ q = 15 ∨ q = 16 ∨ q = 17 ∨ q = 18 ∨ q = 19 ∨ q = 20 ∨ q = 21 ∨ q = 22 ∨ q = 23 ∨ q = 24 ∨ q = 25 ∨ 25 < q by omega) with rfl | rfl | rfl | rfl | rfl | rfl | rfl | rfl | rfl | rfl | rfl | rfl | rfl | rfl | rfl | rfl | rfl | rfl | rfl | rfl | rfl | rfl | rfl | rfl | rfl | rfl | hbig
      · exact lv_tableIn (tgt := 152) (off := 119) X.1 X.2.1 dc_W_law_33 (by decide +kernel) (by decide +kernel) (by decide +kernel) (by decide) (lw_case_0 X hX hbl hL hk kk ad ad2 S sc sc2 H locs ls K B hl)
      · exact lv_tableIn (tgt := 205) (off := 172) X.1 X.2.1 dc_W_law_33 (by decide +kernel) (by decide +kernel) (by decide +kernel) (by decide) (lw_case_1 X hX hbl hL hk kk ad ad2 S sc sc2 H locs ls K B hl)
      · exact lv_tableIn (tgt := 228) (off := 195) X.1 X.2.1 dc_W_law_33 (by decide +kernel) (by decide +kernel) (by decide +kernel) (by decide) (lw_case_2 X hX hbl hL hk kk ad ad2 S sc sc2 H locs ls K B hl)
      · exact lv_tableIn (tgt := 301) (off := 268) X.1 X.2.1 dc_W_law_33 (by decide +kernel) (by decide +kernel) (by decide +kernel) (by decide) (lw_case_3 X hX hbl hL hk kk ad ad2 S sc sc2 H locs ls K B hl)
      · exact lv_tableIn (tgt := 364) (off := 331) X.1 X.2.1 dc_W_law_33 (by decide +kernel) (by decide +kernel) (by decide +kernel) (by decide) (lw_case_4 X hX hbl hL hk kk ad ad2 S sc sc2 H locs ls K B hl)
      · exact lv_tableIn (tgt := 397) (off := 364) X.1 X.2.1 dc_W_law_33 (by decide +kernel) (by decide +kernel) (by decide +kernel) (by decide) (lw_case_5 X hX hbl hL hk kk ad ad2 S sc sc2 H locs ls K B hl)
      · exact lv_tableIn (tgt := 420) (off := 387) X.1 X.2.1 dc_W_law_33 (by decide +kernel) (by decide +kernel) (by decide +kernel) (by decide) (lw_case_6 X hX hbl hL hk kk ad ad2 S sc sc2 H locs ls K B hl)
      · exact lv_tableIn (tgt := 454) (off := 421) X.1 X.2.1 dc_W_law_33 (by decide +kernel) (by decide +kernel) (by decide +kernel) (by decide) (lw_case_7 X hX hbl hL hk kk ad ad2 S sc sc2 H locs ls K B hl)
      · exact lv_tableIn (tgt := 549) (off := 516) X.1 X.2.1 dc_W_law_33 (by decide +kernel) (by decide +kernel) (by decide +kernel) (by decide) (lw_case_8 X hX hbl hL hk kk ad ad2 S sc sc2 H locs ls K B hl)
      · exact lv_tableIn (tgt := 593) (off := 560) X.1 X.2.1 dc_W_law_33 (by decide +kernel) (by decide +kernel) (by decide +kernel) (by decide) (lw_case_9 X hX hbl hL hk kk ad ad2 S sc sc2 H locs ls K B hl)
      · exact lv_tableIn (tgt := 676) (off := 643) X.1 X.2.1 dc_W_law_33 (by decide +kernel) (by decide +kernel) (by decide +kernel) (by decide) (lw_case_10 X hX hbl hL hk kk ad ad2 S sc sc2 H locs ls K B hl)
      · exact lv_tableIn (tgt := 783) (off := 750) X.1 X.2.1 dc_W_law_33 (by decide +kernel) (by decide +kernel) (by decide +kernel) (by decide) (lw_case_11 X hX hbl hL hk kk ad ad2 S sc sc2 H locs ls K B hl)
      · exact lv_tableIn (tgt := 817) (off := 784) X.1 X.2.1 dc_W_law_33 (by decide +kernel) (by decide +kernel) (by decide +kernel) (by decide) (lw_case_12 X hX hbl hL hk kk ad ad2 S sc sc2 H locs ls K B hl)
      · exact lv_tableIn (tgt := 851) (off := 818) X.1 X.2.1 dc_W_law_33 (by decide +kernel) (by decide +kernel) (by decide +kernel) (by decide) (lw_case_13 X hX hbl hL hk kk ad ad2 S sc sc2 H locs ls K B hl)
      · exact lv_tableIn (tgt := 884) (off := 851) X.1 X.2.1 dc_W_law_33 (by decide +kernel) (by decide +kernel) (by decide +kernel) (by decide) (lw_case_14 X hX hbl hL hk kk ad ad2 S sc sc2 H locs ls K B hl)
      · exact lv_tableIn (tgt := 917) (off := 884) X.1 X.2.1 dc_W_law_33 (by decide +kernel) (by decide +kernel) (by decide +kernel) (by decide) (lw_case_15 X hX hbl hL hk kk ad ad2 S sc sc2 H locs ls K B hl)
      · exact lv_tableIn (tgt := 951) (off := 918) X.1 X.2.1 dc_W_law_33 (by decide +kernel) (by decide +kernel) (by decide +kernel) (by decide) (lw_case_16 X hX hbl hL hk kk ad ad2 S sc sc2 H locs ls K B hl)
      · exact lv_tableIn (tgt := 994) (off := 961) X.1 X.2.1 dc_W_law_33 (by decide +kernel) (by decide +kernel) (by decide +kernel) (by decide) (lw_case_17 X hX hbl hL hk kk ad ad2 S sc sc2 H locs ls K B hl)
      · exact lv_tableIn (tgt := 1028) (off := 995) X.1 X.2.1 dc_W_law_33 (by decide +kernel) (by decide +kernel) (by decide +kernel) (by decide) (lw_case_18 X hX hbl hL hk kk ad ad2 S sc sc2 H locs ls K B hl)
      · exact lv_tableIn (tgt := 1061) (off := 1028) X.1 X.2.1 dc_W_law_33 (by decide +kernel) (by decide +kernel) (by decide +kernel) (by decide) (lw_case_19 X hX hbl hL hk kk ad ad2 S sc sc2 H locs ls K B hl)
      · exact lv_tableIn (tgt := 1084) (off := 1051) X.1 X.2.1 dc_W_law_33 (by decide +kernel) (by decide +kernel) (by decide +kernel) (by decide) (lw_case_20 X hX hbl hL hk kk ad ad2 S sc sc2 H locs ls K B hl)
      · exact lv_tableIn (tgt := 1107) (off := 1074) X.1 X.2.1 dc_W_law_33 (by decide +kernel) (by decide +kernel) (by decide +kernel) (by decide) (lw_case_21 X hX hbl hL hk kk ad ad2 S sc sc2 H locs ls K B hl)
      · exact lv_tableIn (tgt := 1171) (off := 1138) X.1 X.2.1 dc_W_law_33 (by decide +kernel) (by decide +kernel) (by decide +kernel) (by decide) (lw_case_22 X hX hbl hL hk kk ad ad2 S sc sc2 H locs ls K B hl)
      · exact lv_tableIn (tgt := 1274) (off := 1241) X.1 X.2.1 dc_W_law_33 (by decide +kernel) (by decide +kernel) (by decide +kernel) (by decide) (lw_case_23 X hX hbl hL hk kk ad ad2 S sc sc2 H locs ls K B hl)
      · exact lv_tableIn (tgt := 1298) (off := 1265) X.1 X.2.1 dc_W_law_33 (by decide +kernel) (by decide +kernel) (by decide +kernel) (by decide) (lw_case_24 X hX hbl hL hk kk ad ad2 S sc sc2 H locs ls K B hl)
      · exact lv_tableIn (tgt := 1332) (off := 1299) X.1 X.2.1 dc_W_law_33 (by decide +kernel) (by decide +kernel) (by decide +kernel) (by decide) (lw_case_25 X hX hbl hL hk kk ad ad2 S sc sc2 H locs ls K B hl)
      · refine lv_tableOut (tgt := 1355) X.1 X.2.1 dc_W_law_33 (Or.inr (by rw [jI_T (by omega) (by omega)]; omega)) (by decide) ?_
        refine W.widen (k := 35 + 3 * (k + 1)) (n := 2056 + 35 * (k + 1)) (by omega) (by omega) ?_
        exact kk ad ad2 S sc sc2 H locs ls K B hl
