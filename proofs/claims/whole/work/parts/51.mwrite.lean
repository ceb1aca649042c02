theorem jI_div {a b : Int} (h1 : 0 ≤ a) (h2 : a ≤ 2147483647) (h3 : 0 < b) (h4 : b ≤ 2147483647) : jI a / jI b = jI (a / b) := by
  have hq : 0 ≤ a / b := Int.ediv_nonneg h1 (by omega)
  have hq2 : a / b ≤ a := Int.ediv_le_self b h1
  rw [← Int32.toInt_inj, Int32.toInt_div_of_ne_right _ _ (fun h => by
    have h9 : (jI b).toInt = -1 := by rw [h]; decide +kernel
    rw [jI_T (by omega) h4] at h9
    omega), jI_T (by omega) h2, jI_T (by omega) h4, jI_T (by omega) (by omega), Int.tdiv_eq_ediv_of_nonneg h1]
section CXI
variable {p : Program} {l : Launch} {e : Env} {R : Room} {s : State} {m : MethodId} {args : Array Value} {below : List Frame} {meth : Method} {c : Code} {H : Heap} {locs : List Loc} {cells slots : Nat} {Q : State → Prop}
variable {cc : ByteArray} {pc nL : Nat} {ls : Array Slot} {rest : List Value} {own : String}
theorem cx_idiv (X : CallFix p m c cc nL s args GW own) {a b : Int} (h1 : 0 ≤ a) (h2 : a ≤ 2147483647) (h3 : 0 < b) (h4 : b ≤ 2147483647) (hdg : decode cc pc = .ok (.idiv, 1)) (k : W p l e R s m args below meth c H locs cells slots Q (F0 m (pc + 1) ls (.int (jI (a / b)) :: rest))) : W p l e R s m args below meth c H locs cells slots Q (F0 m pc ls (.int (jI b) :: .int (jI a) :: rest)) := lv_idiv X.1 X.2.1 hdg (by rw [← jI_0, jI_eq (by omega) h4 (by omega) (by omega)]; omega) (by rw [jI_div h1 h2 h3 h4]; exact k)
end CXI
/-- what shares should come to, as both have it -/
def cs_X (S : cs_S) : Prop := ∀ i : Nat, S 14 i 0 = 1 → S 22 i 0 = S 12 i 0 - S 13 i 0 + S 19 i 0
set_option maxHeartbeats 4000000 in
set_option maxRecDepth 100000 in
theorem c_M_allLandings (l : Launch) (u : cx_U) (ad : Nat → Nat → Nat) (S : cs_S) (sc : Nat → Nat → Int) (hI : cs_I S) (st : Int) (s1 : -2147483648 ≤ st) (s2 : st ≤ 2147483647) : cx_N l u mn_M_allLandings bc_M_allLandings 5 (some .long) 0 0 [.ref (ad 20 0), .int (jI (st))] (wM u ad S sc) (.long (jL (cs_land S st (S 2 0 0).toNat))) := by
  refine cx_N.of (by decide +kernel) (Nat.le_of_ble_eq_true rfl) ?_
  intro p e s m args below meth c ls A X hr hlk B hl
  have X : CallFix p m c bc_M_allLandings 5 s args GW "CatchSharesModel" := X
  have hl : lv_has ls 5 [(0, .ref (ad 20 0)), (1, .int (jI (st)))] := hl
  have hI1 := hI.1
  have hI3 := hI.2.2.1
  refine cx_lconst (a := 0) X dc_M_allLandings_0 (by decide +kernel) ?_
  refine lv_lstore_n (lv' := [(2, .long (jL (0))), (0, .ref (ad 20 0)), (1, .int (jI (st)))]) X.1 X.2.1 dc_M_allLandings_1 rfl hl (by decide) rfl (fun ls hl => ?_)
  refine cx_iconst X dc_M_allLandings_2 ?_
  refine lv_istore (lv' := [(4, .int (jI (0))), (2, .long (jL (0))), (0, .ref (ad 20 0)), (1, .int (jI (st)))]) X.1 X.2.1 dc_M_allLandings_3 hl (by decide) rfl (fun ls hl => ?_)
  have lp_1 : ∀ (n_2 k : Nat) (ls : Array Slot) , (k : Int) ≤ S 2 0 0 → S 2 0 0 - (k : Int) < (n_2 : Int) → lv_has ls 5 [(0, .ref (ad 20 0)), (1, .int (jI (st))), (2, .long (jL (cs_land S st k))), (4, .int (jI ((k : Int))))] → W p l e (cx_R 0 0 0 0) s m args below meth c s.heap [] 0 0 (MQ below (fun _ st_ oc_ t_ => oc_ = .returned (some (.long (jL (cs_land S st (S 2 0 0).toNat)))) ∧ t_.heap = st_.heap) args s 0 0 (fun _ => False)) (F0 m 5 ls []) := by
    intro n_2
    induction n_2 with
    | zero => intro k ls  hi_4 hn_5; exfalso; omega
    | succ n_2 ih_3 =>
      intro k ls  hi_4 hn_5 hl
      have hI3 := hI3 k
      refine lv_iload X.1 X.2.1 dc_M_allLandings_5 (lv_at hl 3 rfl) ?_
      refine lv_aload_n X.1 X.2.1 dc_M_allLandings_7 rfl (lv_at hl 0 rfl) ?_
      refine cx_get (v := .int (jI (S 2 0 0))) X B (wM_20 u ad S sc) rfl uw_M 15 (by decide) gf_M_115 rfl dc_M_allLandings_8 ?_
      refine cx_icmp_ge (tgt := 48) X (by omega) (by omega) (by omega) (by omega) dc_M_allLandings_11 (by decide) (fun c_6 => ?_) (fun c_6 => ?_)
      · refine lv_lload_n X.1 X.2.1 dc_M_allLandings_48 rfl (lv_at hl 2 rfl) ?_
        exact cx_lretN X hr hlk (by rw [show (S 2 0 0).toNat = k by omega]) dc_M_allLandings_49
      · refine lv_aload_n X.1 X.2.1 dc_M_allLandings_14 rfl (lv_at hl 0 rfl) ?_
        refine cx_get (v := .ref (ad 34 0)) X B (wM_20 u ad S sc) rfl uw_M 16 (by decide) gf_M_51 rfl dc_M_allLandings_15 ?_
        refine lv_iload X.1 X.2.1 dc_M_allLandings_18 (lv_at hl 3 rfl) ?_
        refine cx_iald X B (wM_34 u ad S sc) (k) (by omega) (by omega) (by decide) dc_M_allLandings_20 ?_
        refine cx_bipush X dc_M_allLandings_21 (by decide +kernel) ?_
        refine cx_idiv X (by omega) (by omega) (by omega) (by omega) dc_M_allLandings_23 ?_
        refine lv_iload_n X.1 X.2.1 dc_M_allLandings_24 rfl (lv_at hl 1 rfl) ?_
        refine cx_icmp_ne (tgt := 40) X (by omega) (by omega) (by omega) (by omega) dc_M_allLandings_25 (by decide) (fun c_7 => ?_) (fun c_7 => ?_)
        · refine lv_lload_n X.1 X.2.1 dc_M_allLandings_40 rfl (lv_at hl 2 rfl) ?_
          refine lv_lstore_n (lv' := [(2, .long (jL (cs_land S st k))), (0, .ref (ad 20 0)), (1, .int (jI (st))), (4, .int (jI ((k : Int))))]) X.1 X.2.1 dc_M_allLandings_41 rfl hl (by decide) rfl (fun ls hl => ?_)
          refine lv_iinc (v := jI ((k : Int) + 1)) (lv' := [(4, .int (jI ((k : Int) + 1))), (2, .long (jL (cs_land S st k))), (0, .ref (ad 20 0)), (1, .int (jI (st)))]) X.1 X.2.1 dc_M_allLandings_42 hl (k := 3) rfl (jI_add _ _) (by decide) rfl (fun ls hl => ?_)
          refine lv_goto (tgt := 5) X.1 X.2.1 dc_M_allLandings_45 (by decide) ?_
          have qq : cs_land S st (k + 1) = cs_land S st k := by rw [cs_land_s, if_neg (by omega)]; omega
          exact ih_3 (k + 1) ls  (by omega) (by omega) (by rw [qq]; exact lv_sub hl [2, 3, 1, 0] rfl)
        · refine lv_lload_n X.1 X.2.1 dc_M_allLandings_28 rfl (lv_at hl 2 rfl) ?_
          refine lv_aload_n X.1 X.2.1 dc_M_allLandings_29 rfl (lv_at hl 0 rfl) ?_
          refine cx_get (v := .ref (ad 35 0)) X B (wM_20 u ad S sc) rfl uw_M 17 (by decide) gf_M_54 rfl dc_M_allLandings_30 ?_
          refine lv_iload X.1 X.2.1 dc_M_allLandings_33 (lv_at hl 3 rfl) ?_
          refine cx_lald X B (wM_35 u ad S sc) (k) (by omega) (by omega) (by decide) dc_M_allLandings_35 ?_
          refine cx_ladd X dc_M_allLandings_36 ?_
          refine lv_goto (tgt := 41) X.1 X.2.1 dc_M_allLandings_37 (by decide) ?_
          refine lv_lstore_n (lv' := [(2, .long (jL ((cs_land S st k) + (S 9 k 0)))), (0, .ref (ad 20 0)), (1, .int (jI (st))), (4, .int (jI ((k : Int))))]) X.1 X.2.1 dc_M_allLandings_41 rfl hl (by decide) rfl (fun ls hl => ?_)
          refine lv_iinc (v := jI ((k : Int) + 1)) (lv' := [(4, .int (jI ((k : Int) + 1))), (2, .long (jL ((cs_land S st k) + (S 9 k 0)))), (0, .ref (ad 20 0)), (1, .int (jI (st)))]) X.1 X.2.1 dc_M_allLandings_42 hl (k := 3) rfl (jI_add _ _) (by decide) rfl (fun ls hl => ?_)
          refine lv_goto (tgt := 5) X.1 X.2.1 dc_M_allLandings_45 (by decide) ?_
          have qq : cs_land S st (k + 1) = (cs_land S st k) + (S 9 k 0) := by rw [cs_land_s, if_pos (by omega)]
          exact ih_3 (k + 1) ls  (by omega) (by omega) (by rw [qq]; exact lv_sub hl [2, 3, 1, 0] rfl)
  exact lp_1 ((S 2 0 0 : Int).toNat + 1) 0 ls  (by omega) (by omega) (by  exact lv_sub hl [2, 3, 1, 0] rfl)
set_option maxHeartbeats 4000000 in
set_option maxRecDepth 100000 in
theorem c_M_discard (l : Launch) (u : cx_U) (ad : Nat → Nat → Nat) (S : cs_S) (sc : Nat → Nat → Int) (hI : cs_I S) (a : Int) (a1 : -2147483648 ≤ a) (a2 : a ≤ 2147483647) : cx_N l u mn_M_discard bc_M_discard 2 (some .long) 2 46 [.ref (ad 20 0), .int (jI (a))] (wM u ad S sc) (.long (jL (cs_discQ S a))) := by
  refine cx_N.of (by decide +kernel) (Nat.le_of_ble_eq_true rfl) ?_
  intro p e s m args below meth c ls A X hr hlk B hl
  have X : CallFix p m c bc_M_discard 2 s args GW "CatchSharesModel" := X
  have hl : lv_has ls 2 [(0, .ref (ad 20 0)), (1, .int (jI (a)))] := hl
  have hI1 := hI.1
  have hI5 := hI.2.2.2.2.1
  refine lv_aload_n X.1 X.2.1 dc_M_discard_0 rfl (lv_at hl 0 rfl) ?_
  refine lv_iload_n X.1 X.2.1 dc_M_discard_1 rfl (lv_at hl 1 rfl) ?_
  refine cx_cVN (r := .int (jI (jB (0 ≤ a ∧ a < S 0 0 0)))) (As := [.int (jI (a))]) (rest := []) X B kc_M_isStock gm_M_97 (c_M_isStock l u ad S sc hI a (by omega) (by omega)) (fun _ _ _ h => h) (wM_20 u ad S sc) rfl rfl ⟨(Nat.le_of_ble_eq_true rfl), (Nat.le_of_ble_eq_true rfl)⟩ ⟨(Nat.le_of_ble_eq_true rfl), (Nat.le_of_ble_eq_true rfl)⟩ rfl hl.1 (Nat.le_of_ble_eq_true rfl) dc_M_discard_2 rfl ?_
  refine cx_ifeqB (tgt := 19) X dc_M_discard_5 (by decide) (fun c_1 => ?_) (fun c_1 => ?_)
  · refine cx_ldc2 (a := -1) X gk_M_109 (by decide +kernel) dc_M_discard_19 ?_
    exact cx_lretN X hr hlk (by rw [cs_discQ, if_neg (by omega)]) dc_M_discard_22
  · obtain ⟨i, rfl⟩ : ∃ i : Nat, a = (i : Int) := ⟨a.toNat, by omega⟩
    have hi : (i : Int) < S 0 0 0 := by omega
    refine lv_aload_n X.1 X.2.1 dc_M_discard_8 rfl (lv_at hl 0 rfl) ?_
    refine cx_get (v := .ref (ad 27 0)) X B (wM_20 u ad S sc) rfl uw_M 7 (by decide) gf_M_30 rfl dc_M_discard_9 ?_
    refine lv_iload_n X.1 X.2.1 dc_M_discard_12 rfl (lv_at hl 1 rfl) ?_
    refine cx_lald X B (wM_27 u ad S sc) (i) (by omega) (by omega) (by decide) dc_M_discard_13 ?_
    have r_2 := hI5 i
    refine cx_lconst (a := 0) X dc_M_discard_14 (by decide +kernel) ?_
    refine cx_lcmp_ne (tgt := 23) X (by omega) (by omega) (by omega) (by omega) dc_M_discard_15 dc_M_discard_16 (by decide) (fun c_3 => ?_) (fun c_3 => ?_)
    · refine lv_aload_n X.1 X.2.1 dc_M_discard_23 rfl (lv_at hl 0 rfl) ?_
      refine lv_iload_n X.1 X.2.1 dc_M_discard_24 rfl (lv_at hl 1 rfl) ?_
      refine cx_cVN (r := .long (jL (cs_land S (i : Int) (S 2 0 0).toNat))) (As := [.int (jI ((i : Int)))]) (rest := []) X B kc_M_allLandings gm_M_165 (c_M_allLandings l u ad S sc hI (i : Int) (by omega) (by omega)) (fun _ _ _ h => h) (wM_20 u ad S sc) rfl rfl ⟨(Nat.le_of_ble_eq_true rfl), (Nat.le_of_ble_eq_true rfl)⟩ ⟨(Nat.le_of_ble_eq_true rfl), (Nat.le_of_ble_eq_true rfl)⟩ rfl hl.1 (Nat.le_of_ble_eq_true rfl) dc_M_discard_25 rfl ?_
      have r_4 := cs_mul_b (cs_land_b hI (i : Int) (S 2 0 0).toNat) (hI5 i) hI1
      refine lv_aload_n X.1 X.2.1 dc_M_discard_28 rfl (lv_at hl 0 rfl) ?_
      refine cx_get (v := .ref (ad 28 0)) X B (wM_20 u ad S sc) rfl uw_M 8 (by decide) gf_M_33 rfl dc_M_discard_29 ?_
      refine lv_iload_n X.1 X.2.1 dc_M_discard_32 rfl (lv_at hl 1 rfl) ?_
      refine cx_lald X B (wM_28 u ad S sc) (i) (by omega) (by omega) (by decide) dc_M_discard_33 ?_
      refine cx_lmul X dc_M_discard_34 ?_
      refine lv_aload_n X.1 X.2.1 dc_M_discard_35 rfl (lv_at hl 0 rfl) ?_
      refine cx_get (v := .ref (ad 27 0)) X B (wM_20 u ad S sc) rfl uw_M 7 (by decide) gf_M_30 rfl dc_M_discard_36 ?_
      refine lv_iload_n X.1 X.2.1 dc_M_discard_39 rfl (lv_at hl 1 rfl) ?_
      refine cx_lald X B (wM_27 u ad S sc) (i) (by omega) (by omega) (by decide) dc_M_discard_40 ?_
      have r_5 := hI5 i
      refine cx_ldiv X (by omega) (by omega) (by omega) (by omega) dc_M_discard_41 ?_
      exact cx_lretN X hr hlk (by rw [cs_discQ, if_pos (by rw [cs_nn]; omega)]; rfl) dc_M_discard_42
    · refine cx_ldc2 (a := -1) X gk_M_109 (by decide +kernel) dc_M_discard_19 ?_
      exact cx_lretN X hr hlk (by rw [cs_discQ, if_neg (by rw [cs_nn]; omega)]) dc_M_discard_22
set_option maxHeartbeats 4000000 in
set_option maxRecDepth 100000 in
theorem c_M_told (l : Launch) (u : cx_U) (ad : Nat → Nat → Nat) (S : cs_S) (sc : Nat → Nat → Int) (hI : cs_I S) (hY : cs_Y S) (a b : Int) (a1 : -2147483648 ≤ a) (a2 : a ≤ 2147483647) (b1 : -2147483648 ≤ b) (b2 : b ≤ 2147483647) : cx_N l u mn_M_told bc_M_told 3 (some .long) 2 46 [.ref (ad 20 0), .int (jI (a)), .int (jI (b))] (wM u ad S sc) (.long (jL (cs_toldQ S a b))) := by
  refine cx_N.of (by decide +kernel) (Nat.le_of_ble_eq_true rfl) ?_
  intro p e s m args below meth c ls A X hr hlk B hl
  have X : CallFix p m c bc_M_told 3 s args GW "CatchSharesModel" := X
  have hl : lv_has ls 3 [(0, .ref (ad 20 0)), (1, .int (jI (a))), (2, .int (jI (b)))] := hl
  have hI1 := hI.1
  have hI5 := hI.2.2.2.2.1
  refine lv_aload_n X.1 X.2.1 dc_M_told_0 rfl (lv_at hl 0 rfl) ?_
  refine lv_iload_n X.1 X.2.1 dc_M_told_1 rfl (lv_at hl 1 rfl) ?_
  refine cx_cVN (r := .int (jI (jB (0 ≤ a ∧ a < S 0 0 0)))) (As := [.int (jI (a))]) (rest := []) X B kc_M_isStock gm_M_97 (c_M_isStock l u ad S sc hI a (by omega) (by omega)) (fun _ _ _ h => h) (wM_20 u ad S sc) rfl rfl ⟨(Nat.le_of_ble_eq_true rfl), (Nat.le_of_ble_eq_true rfl)⟩ ⟨(Nat.le_of_ble_eq_true rfl), (Nat.le_of_ble_eq_true rfl)⟩ rfl hl.1 (Nat.le_of_ble_eq_true rfl) dc_M_told_2 rfl ?_
  refine cx_ifneB (tgt := 12) X dc_M_told_5 (by decide) (fun c_1 => ?_) (fun c_1 => ?_)
  · obtain ⟨i, rfl⟩ : ∃ i : Nat, a = (i : Int) := ⟨a.toNat, by omega⟩
    have hi : (i : Int) < S 0 0 0 := by omega
    refine lv_iload_n X.1 X.2.1 dc_M_told_12 rfl (lv_at hl 2 rfl) ?_
    refine cx_if_ne (tgt := 23) X (by omega) (by omega) dc_M_told_13 (by decide) (fun c_2 => ?_) (fun c_2 => ?_)
    · refine lv_iload_n X.1 X.2.1 dc_M_told_23 rfl (lv_at hl 2 rfl) ?_
      refine cx_iconst X dc_M_told_24 ?_
      refine cx_icmp_ne (tgt := 35) X (by omega) (by omega) (by omega) (by omega) dc_M_told_25 (by decide) (fun c_3 => ?_) (fun c_3 => ?_)
      · refine lv_iload_n X.1 X.2.1 dc_M_told_35 rfl (lv_at hl 2 rfl) ?_
        refine cx_iconst X dc_M_told_36 ?_
        refine cx_icmp_ne (tgt := 55) X (by omega) (by omega) (by omega) (by omega) dc_M_told_37 (by decide) (fun c_4 => ?_) (fun c_4 => ?_)
        · refine lv_iload_n X.1 X.2.1 dc_M_told_55 rfl (lv_at hl 2 rfl) ?_
          refine cx_iconst X dc_M_told_56 ?_
          refine cx_icmp_ne (tgt := 66) X (by omega) (by omega) (by omega) (by omega) dc_M_told_57 (by decide) (fun c_5 => ?_) (fun c_5 => ?_)
          · refine lv_iload_n X.1 X.2.1 dc_M_told_66 rfl (lv_at hl 2 rfl) ?_
            refine cx_iconst X dc_M_told_67 ?_
            refine cx_icmp_ne (tgt := 77) X (by omega) (by omega) (by omega) (by omega) dc_M_told_68 (by decide) (fun c_6 => ?_) (fun c_6 => ?_)
            · refine lv_iload_n X.1 X.2.1 dc_M_told_77 rfl (lv_at hl 2 rfl) ?_
              refine cx_iconst X dc_M_told_78 ?_
              refine cx_icmp_ne (tgt := 90) X (by omega) (by omega) (by omega) (by omega) dc_M_told_79 (by decide) (fun c_7 => ?_) (fun c_7 => ?_)
              · refine lv_iload_n X.1 X.2.1 dc_M_told_90 rfl (lv_at hl 2 rfl) ?_
                refine cx_bipush X dc_M_told_91 (by decide +kernel) ?_
                refine cx_icmp_ne (tgt := 106) X (by omega) (by omega) (by omega) (by omega) dc_M_told_93 (by decide) (fun c_8 => ?_) (fun c_8 => ?_)
                · refine cx_ldc2 (a := -1) X gk_M_109 (by decide +kernel) dc_M_told_106 ?_
                  exact cx_lretN X hr hlk (by congr 2; rw [cs_toldQ, if_pos (by omega)]; simp only [cs_nn]; repeat (first | rfl | omega | split)) dc_M_told_109
                · refine lv_aload_n X.1 X.2.1 dc_M_told_96 rfl (lv_at hl 0 rfl) ?_
                  refine cx_get (v := .ref (ad 23 0)) X B (wM_20 u ad S sc) rfl uw_M 3 (by decide) gf_M_16 rfl dc_M_told_97 ?_
                  refine lv_iload_n X.1 X.2.1 dc_M_told_100 rfl (lv_at hl 1 rfl) ?_
                  refine cx_iald X B (wM_23 u ad S sc) (i) (by omega) (by omega) (by decide) dc_M_told_101 ?_
                  have r_9 := hI5 i
                  refine cx_i2l X (by omega) (by omega) dc_M_told_102 ?_
                  refine lv_goto (tgt := 109) X.1 X.2.1 dc_M_told_103 (by decide) ?_
                  exact cx_lretN X hr hlk (by congr 2; rw [cs_toldQ, if_pos (by omega)]; simp only [cs_nn]; repeat (first | rfl | omega | split)) dc_M_told_109
              · refine lv_aload_n X.1 X.2.1 dc_M_told_82 rfl (lv_at hl 0 rfl) ?_
                refine cx_get (v := .ref (ad 25 0)) X B (wM_20 u ad S sc) rfl uw_M 5 (by decide) gf_M_24 rfl dc_M_told_83 ?_
                refine lv_iload_n X.1 X.2.1 dc_M_told_86 rfl (lv_at hl 1 rfl) ?_
                refine cx_iald X B (wM_25 u ad S sc) (i) (by omega) (by omega) (by decide) dc_M_told_87 ?_
                have r_10 := hI5 i
                refine cx_i2l X (by omega) (by omega) dc_M_told_88 ?_
                exact cx_lretN X hr hlk (by congr 2; rw [cs_toldQ, if_pos (by omega)]; simp only [cs_nn]; repeat (first | rfl | omega | split)) dc_M_told_89
            · refine lv_aload_n X.1 X.2.1 dc_M_told_71 rfl (lv_at hl 0 rfl) ?_
              refine lv_iload_n X.1 X.2.1 dc_M_told_72 rfl (lv_at hl 1 rfl) ?_
              refine cx_cVN (r := .long (jL (cs_land S (i : Int) (S 2 0 0).toNat))) (As := [.int (jI ((i : Int)))]) (rest := []) X B kc_M_allLandings gm_M_165 (c_M_allLandings l u ad S sc hI (i : Int) (by omega) (by omega)) (fun _ _ _ h => h) (wM_20 u ad S sc) rfl rfl ⟨(Nat.le_of_ble_eq_true rfl), (Nat.le_of_ble_eq_true rfl)⟩ ⟨(Nat.le_of_ble_eq_true rfl), (Nat.le_of_ble_eq_true rfl)⟩ rfl hl.1 (Nat.le_of_ble_eq_true rfl) dc_M_told_73 rfl ?_
              exact cx_lretN X hr hlk (by congr 2; rw [cs_toldQ, if_pos (by omega)]; simp only [cs_nn]; repeat (first | rfl | omega | split)) dc_M_told_76
          · refine lv_aload_n X.1 X.2.1 dc_M_told_60 rfl (lv_at hl 0 rfl) ?_
            refine lv_iload_n X.1 X.2.1 dc_M_told_61 rfl (lv_at hl 1 rfl) ?_
            refine cx_cVN (r := .long (jL (cs_sum (S 21 i) 12))) (As := [.int (jI ((i : Int)))]) (rest := []) X B kc_M_allShares gm_M_135 (c_M_allShares l u ad S sc hI hY i hi) (fun _ _ _ h => h) (wM_20 u ad S sc) rfl rfl ⟨(Nat.le_of_ble_eq_true rfl), (Nat.le_of_ble_eq_true rfl)⟩ ⟨(Nat.le_of_ble_eq_true rfl), (Nat.le_of_ble_eq_true rfl)⟩ rfl hl.1 (Nat.le_of_ble_eq_true rfl) dc_M_told_62 rfl ?_
            exact cx_lretN X hr hlk (by congr 2; rw [cs_toldQ, if_pos (by omega)]; simp only [cs_nn]; repeat (first | rfl | omega | split)) dc_M_told_65
        · refine lv_aload_n X.1 X.2.1 dc_M_told_40 rfl (lv_at hl 0 rfl) ?_
          refine cx_get (v := .ref (ad 24 0)) X B (wM_20 u ad S sc) rfl uw_M 4 (by decide) gf_M_20 rfl dc_M_told_41 ?_
          refine lv_iload_n X.1 X.2.1 dc_M_told_44 rfl (lv_at hl 1 rfl) ?_
          refine cx_zald X B (wM_24 u ad S sc) (i) (by omega) (by omega) (by decide) dc_M_told_45 ?_
          have r_11 := hI5 i
          refine cx_if_eq (tgt := 53) X (by omega) (by omega) dc_M_told_46 (by decide) (fun c_12 => ?_) (fun c_12 => ?_)
          · refine cx_lconst (a := 0) X dc_M_told_53 (by decide +kernel) ?_
            exact cx_lretN X hr hlk (by congr 2; rw [cs_toldQ, if_pos (by omega)]; simp only [cs_nn]; repeat (first | rfl | omega | split)) dc_M_told_54
          · refine cx_lconst (a := 1) X dc_M_told_49 (by decide +kernel) ?_
            refine lv_goto (tgt := 54) X.1 X.2.1 dc_M_told_50 (by decide) ?_
            exact cx_lretN X hr hlk (by congr 2; rw [cs_toldQ, if_pos (by omega)]; simp only [cs_nn]; repeat (first | rfl | omega | split)) dc_M_told_54
      · refine lv_aload_n X.1 X.2.1 dc_M_told_28 rfl (lv_at hl 0 rfl) ?_
        refine cx_get (v := .ref (ad 22 0)) X B (wM_20 u ad S sc) rfl uw_M 2 (by decide) gf_M_13 rfl dc_M_told_29 ?_
        refine lv_iload_n X.1 X.2.1 dc_M_told_32 rfl (lv_at hl 1 rfl) ?_
        refine cx_lald X B (wM_22 u ad S sc) (i) (by omega) (by omega) (by decide) dc_M_told_33 ?_
        exact cx_lretN X hr hlk (by congr 2; rw [cs_toldQ, if_pos (by omega)]; simp only [cs_nn]; repeat (first | rfl | omega | split)) dc_M_told_34
    · refine lv_aload_n X.1 X.2.1 dc_M_told_16 rfl (lv_at hl 0 rfl) ?_
      refine cx_get (v := .ref (ad 21 0)) X B (wM_20 u ad S sc) rfl uw_M 1 (by decide) gf_M_7 rfl dc_M_told_17 ?_
      refine lv_iload_n X.1 X.2.1 dc_M_told_20 rfl (lv_at hl 1 rfl) ?_
      refine cx_lald X B (wM_21 u ad S sc) (i) (by omega) (by omega) (by decide) dc_M_told_21 ?_
      exact cx_lretN X hr hlk (by congr 2; rw [cs_toldQ, if_pos (by omega)]; simp only [cs_nn]; repeat (first | rfl | omega | split)) dc_M_told_22
  · refine cx_ldc2 (a := -1) X gk_M_109 (by decide +kernel) dc_M_told_8 ?_
    exact cx_lretN X hr hlk (by rw [cs_toldQ, if_neg (by omega)]) dc_M_told_11
set_option maxHeartbeats 4000000 in
set_option maxRecDepth 100000 in
theorem c_M_sums (l : Launch) (u : cx_U) (ad : Nat → Nat → Nat) (S : cs_S) (sc : Nat → Nat → Int) (hI : cs_I S) (hY : cs_Y S) (hX : cs_X S) (a : Int) (a1 : -2147483648 ≤ a) (a2 : a ≤ 2147483647) : cx_N l u mn_M_sums bc_M_sums 2 (some .boolean) 2 46 [.ref (ad 20 0), .int (jI (a))] (wM u ad S sc) (.int (jI (jB (cs_sumsQ S a)))) := by
  refine cx_N.of (by decide +kernel) (Nat.le_of_ble_eq_true rfl) ?_
  intro p e s m args below meth c ls A X hr hlk B hl
  have X : CallFix p m c bc_M_sums 2 s args GW "CatchSharesModel" := X
  have hl : lv_has ls 2 [(0, .ref (ad 20 0)), (1, .int (jI (a)))] := hl
  have hI1 := hI.1
  have hI5 := hI.2.2.2.2.1
  refine lv_aload_n X.1 X.2.1 dc_M_sums_0 rfl (lv_at hl 0 rfl) ?_
  refine lv_iload_n X.1 X.2.1 dc_M_sums_1 rfl (lv_at hl 1 rfl) ?_
  refine cx_cVN (r := .int (jI (jB (0 ≤ a ∧ a < S 0 0 0)))) (As := [.int (jI (a))]) (rest := []) X B kc_M_isStock gm_M_97 (c_M_isStock l u ad S sc hI a (by omega) (by omega)) (fun _ _ _ h => h) (wM_20 u ad S sc) rfl rfl ⟨(Nat.le_of_ble_eq_true rfl), (Nat.le_of_ble_eq_true rfl)⟩ ⟨(Nat.le_of_ble_eq_true rfl), (Nat.le_of_ble_eq_true rfl)⟩ rfl hl.1 (Nat.le_of_ble_eq_true rfl) dc_M_sums_2 rfl ?_
  refine cx_ifeqB (tgt := 50) X dc_M_sums_5 (by decide) (fun c_1 => ?_) (fun c_1 => ?_)
  · refine cx_iconst X dc_M_sums_50 ?_
    exact cx_zretN X hr hlk (by omega) (by omega) (by rw [jB_f (fun q => by have q1 := q.1; have q2 := q.2.1; omega)]) dc_M_sums_51
  · obtain ⟨i, rfl⟩ : ∃ i : Nat, a = (i : Int) := ⟨a.toNat, by omega⟩
    have hi : (i : Int) < S 0 0 0 := by omega
    refine lv_aload_n X.1 X.2.1 dc_M_sums_8 rfl (lv_at hl 0 rfl) ?_
    refine cx_get (v := .ref (ad 24 0)) X B (wM_20 u ad S sc) rfl uw_M 4 (by decide) gf_M_20 rfl dc_M_sums_9 ?_
    refine lv_iload_n X.1 X.2.1 dc_M_sums_12 rfl (lv_at hl 1 rfl) ?_
    refine cx_zald X B (wM_24 u ad S sc) (i) (by omega) (by omega) (by decide) dc_M_sums_13 ?_
    have r_2 := hI5 i
    refine cx_if_eq (tgt := 50) X (by omega) (by omega) dc_M_sums_14 (by decide) (fun c_3 => ?_) (fun c_3 => ?_)
    · refine cx_iconst X dc_M_sums_50 ?_
      exact cx_zretN X hr hlk (by omega) (by omega) (by rw [jB_f (fun q => by have q1 := q.2.2.1; rw [cs_nn] at q1; omega)]) dc_M_sums_51
    · refine lv_aload_n X.1 X.2.1 dc_M_sums_17 rfl (lv_at hl 0 rfl) ?_
      refine lv_iload_n X.1 X.2.1 dc_M_sums_18 rfl (lv_at hl 1 rfl) ?_
      refine cx_cVN (r := .long (jL (cs_sum (S 21 i) 12))) (As := [.int (jI ((i : Int)))]) (rest := []) X B kc_M_allShares gm_M_135 (c_M_allShares l u ad S sc hI hY i hi) (fun _ _ _ h => h) (wM_20 u ad S sc) rfl rfl ⟨(Nat.le_of_ble_eq_true rfl), (Nat.le_of_ble_eq_true rfl)⟩ ⟨(Nat.le_of_ble_eq_true rfl), (Nat.le_of_ble_eq_true rfl)⟩ rfl hl.1 (Nat.le_of_ble_eq_true rfl) dc_M_sums_19 rfl ?_
      refine lv_aload_n X.1 X.2.1 dc_M_sums_22 rfl (lv_at hl 0 rfl) ?_
      refine cx_get (v := .ref (ad 21 0)) X B (wM_20 u ad S sc) rfl uw_M 1 (by decide) gf_M_7 rfl dc_M_sums_23 ?_
      refine lv_iload_n X.1 X.2.1 dc_M_sums_26 rfl (lv_at hl 1 rfl) ?_
      refine cx_lald X B (wM_21 u ad S sc) (i) (by omega) (by omega) (by decide) dc_M_sums_27 ?_
      refine lv_aload_n X.1 X.2.1 dc_M_sums_28 rfl (lv_at hl 0 rfl) ?_
      refine cx_get (v := .ref (ad 22 0)) X B (wM_20 u ad S sc) rfl uw_M 2 (by decide) gf_M_13 rfl dc_M_sums_29 ?_
      refine lv_iload_n X.1 X.2.1 dc_M_sums_32 rfl (lv_at hl 1 rfl) ?_
      refine cx_lald X B (wM_22 u ad S sc) (i) (by omega) (by omega) (by decide) dc_M_sums_33 ?_
      refine cx_lsub X dc_M_sums_34 ?_
      refine lv_aload_n X.1 X.2.1 dc_M_sums_35 rfl (lv_at hl 0 rfl) ?_
      refine cx_get (v := .ref (ad 26 0)) X B (wM_20 u ad S sc) rfl uw_M 6 (by decide) gf_M_27 rfl dc_M_sums_36 ?_
      refine lv_iload_n X.1 X.2.1 dc_M_sums_39 rfl (lv_at hl 1 rfl) ?_
      refine cx_lald X B (wM_26 u ad S sc) (i) (by omega) (by omega) (by decide) dc_M_sums_40 ?_
      refine cx_ladd X dc_M_sums_41 ?_
      have hx := hX i (by omega)
      rw [← hx]
      refine cx_lcmpR_ne (tgt := 50) X dc_M_sums_42 dc_M_sums_43 (by decide) (fun cr_4 => ?_) (fun cr_4 => ?_)
      · refine cx_iconst X dc_M_sums_50 ?_
        exact cx_zretN X hr hlk (by omega) (by omega) (by rw [jB_f (fun q => cr_4 q.2.2.2)]) dc_M_sums_51
      · refine cx_iconst X dc_M_sums_46 ?_
        refine lv_goto (tgt := 51) X.1 X.2.1 dc_M_sums_47 (by decide) ?_
        exact cx_zretN X hr hlk (by omega) (by omega) (by rw [jB_t ⟨by omega, by omega, by rw [cs_nn]; omega, cr_4⟩]) dc_M_sums_51
theorem cs_pf12 (T : Nat → Nat → Int) {a b : Nat} (hb : b < 12) (x : Int) : (fun z_ => jL (va_up (fun z_ => T (z_ / 12) (z_ % 12)) (12 * a + b) x z_)) = fun z_ => jL (if z_ / 12 = a ∧ z_ % 12 = b then x else T (z_ / 12) (z_ % 12)) := by
  funext z
  by_cases hq : z = 12 * a + b
  · rw [va_upE, if_pos hq, if_pos (by omega)]
  · rw [va_upE, if_neg hq, if_neg (by omega)]
theorem cs_pf10 (T : Nat → Nat → Int) {a b : Nat} (hb : b < 10) (x : Int) : (fun z_ => jI (va_up (fun z_ => T (z_ / 10) (z_ % 10)) (10 * a + b) x z_)) = fun z_ => jI (if z_ / 10 = a ∧ z_ % 10 = b then x else T (z_ / 10) (z_ % 10)) := by
  funext z
  by_cases hq : z = 10 * a + b
  · rw [va_upE, if_pos hq, if_pos (by omega)]
  · rw [va_upE, if_neg hq, if_neg (by omega)]
theorem wM_f20 (u : cx_U) (ad : Nat → Nat → Nat) (T : cs_S) (sc : Nat → Nat → Int) {a b : Nat} (hb : b < 12) (x : Int) : cx_up (wM u ad T sc) 31 0 (ad 31 0, .inl (u.2 1, 96, .inr (.inl (fun z_ => jL (va_up (fun z_ => T 20 (z_ / 12) (z_ % 12)) (12 * a + b) x z_))))) = wM u ad (cs_u T 20 a b x) sc := by
  rw [cs_pf12 (T 20) hb x]
  funext k j
  match k with
  | 0 => simp [cx_up, wM]
  | 1 => simp [cx_up, wM]
  | 2 => simp [cx_up, wM]
  | 3 => simp [cx_up, wM]
  | 4 => simp [cx_up, wM]
  | 5 => simp [cx_up, wM]
  | 6 => simp [cx_up, wM]
  | 7 => simp [cx_up, wM]
  | 8 => simp [cx_up, wM]
  | 9 => simp [cx_up, wM]
  | 10 => simp [cx_up, wM]
  | 11 => simp [cx_up, wM]
  | 12 => simp [cx_up, wM]
  | 13 => simp [cx_up, wM]
  | 14 => simp [cx_up, wM]
  | 15 => simp [cx_up, wM]
  | 16 => simp [cx_up, wM]
  | 17 => simp [cx_up, wM]
  | 18 => simp [cx_up, wM]
  | 19 => simp [cx_up, wM]
  | 20 => by_cases hz : j = 0 <;> simp [cx_up, wM, cs_u, hz]
  | 21 => by_cases hz : j = 0 <;> simp [cx_up, wM, cs_u, hz]
  | 22 => by_cases hz : j = 0 <;> simp [cx_up, wM, cs_u, hz]
  | 23 => by_cases hz : j = 0 <;> simp [cx_up, wM, cs_u, hz]
  | 24 => by_cases hz : j = 0 <;> simp [cx_up, wM, cs_u, hz]
  | 25 => by_cases hz : j = 0 <;> simp [cx_up, wM, cs_u, hz]
  | 26 => by_cases hz : j = 0 <;> simp [cx_up, wM, cs_u, hz]
  | 27 => by_cases hz : j = 0 <;> simp [cx_up, wM, cs_u, hz]
  | 28 => by_cases hz : j = 0 <;> simp [cx_up, wM, cs_u, hz]
  | 29 => by_cases hz : j = 0 <;> simp [cx_up, wM, cs_u, hz]
  | 30 => by_cases hz : j = 0 <;> simp [cx_up, wM, cs_u, hz]
  | 31 => by_cases hz : j = 0 <;> simp [cx_up, wM, cs_u, hz]
  | 32 => by_cases hz : j = 0 <;> simp [cx_up, wM, cs_u, hz]
  | 33 => by_cases hz : j = 0 <;> simp [cx_up, wM, cs_u, hz]
  | 34 => by_cases hz : j = 0 <;> simp [cx_up, wM, cs_u, hz]
  | 35 => by_cases hz : j = 0 <;> simp [cx_up, wM, cs_u, hz]
  | 36 => by_cases hz : j = 0 <;> simp [cx_up, wM, cs_u, hz]
  | 37 => by_cases hz : j = 0 <;> simp [cx_up, wM, cs_u, hz]
  | 38 => by_cases hz : j = 0 <;> simp [cx_up, wM, cs_u, hz]
  | 39 => by_cases hz : j = 0 <;> simp [cx_up, wM, cs_u, hz]
  | 40 => by_cases hz : j = 0 <;> simp [cx_up, wM, cs_u, hz]
  | k + 41 => simp [cx_up, wM]
theorem wM_f21 (u : cx_U) (ad : Nat → Nat → Nat) (T : cs_S) (sc : Nat → Nat → Int) {a b : Nat} (hb : b < 12) (x : Int) : cx_up (wM u ad T sc) 32 0 (ad 32 0, .inl (u.2 1, 96, .inr (.inl (fun z_ => jL (va_up (fun z_ => T 21 (z_ / 12) (z_ % 12)) (12 * a + b) x z_))))) = wM u ad (cs_u T 21 a b x) sc := by
  rw [cs_pf12 (T 21) hb x]
  funext k j
  match k with
  | 0 => simp [cx_up, wM]
  | 1 => simp [cx_up, wM]
  | 2 => simp [cx_up, wM]
  | 3 => simp [cx_up, wM]
  | 4 => simp [cx_up, wM]
  | 5 => simp [cx_up, wM]
  | 6 => simp [cx_up, wM]
  | 7 => simp [cx_up, wM]
  | 8 => simp [cx_up, wM]
  | 9 => simp [cx_up, wM]
  | 10 => simp [cx_up, wM]
  | 11 => simp [cx_up, wM]
  | 12 => simp [cx_up, wM]
  | 13 => simp [cx_up, wM]
  | 14 => simp [cx_up, wM]
  | 15 => simp [cx_up, wM]
  | 16 => simp [cx_up, wM]
  | 17 => simp [cx_up, wM]
  | 18 => simp [cx_up, wM]
  | 19 => simp [cx_up, wM]
  | 20 => by_cases hz : j = 0 <;> simp [cx_up, wM, cs_u, hz]
  | 21 => by_cases hz : j = 0 <;> simp [cx_up, wM, cs_u, hz]
  | 22 => by_cases hz : j = 0 <;> simp [cx_up, wM, cs_u, hz]
  | 23 => by_cases hz : j = 0 <;> simp [cx_up, wM, cs_u, hz]
  | 24 => by_cases hz : j = 0 <;> simp [cx_up, wM, cs_u, hz]
  | 25 => by_cases hz : j = 0 <;> simp [cx_up, wM, cs_u, hz]
  | 26 => by_cases hz : j = 0 <;> simp [cx_up, wM, cs_u, hz]
  | 27 => by_cases hz : j = 0 <;> simp [cx_up, wM, cs_u, hz]
  | 28 => by_cases hz : j = 0 <;> simp [cx_up, wM, cs_u, hz]
  | 29 => by_cases hz : j = 0 <;> simp [cx_up, wM, cs_u, hz]
  | 30 => by_cases hz : j = 0 <;> simp [cx_up, wM, cs_u, hz]
  | 31 => by_cases hz : j = 0 <;> simp [cx_up, wM, cs_u, hz]
  | 32 => by_cases hz : j = 0 <;> simp [cx_up, wM, cs_u, hz]
  | 33 => by_cases hz : j = 0 <;> simp [cx_up, wM, cs_u, hz]
  | 34 => by_cases hz : j = 0 <;> simp [cx_up, wM, cs_u, hz]
  | 35 => by_cases hz : j = 0 <;> simp [cx_up, wM, cs_u, hz]
  | 36 => by_cases hz : j = 0 <;> simp [cx_up, wM, cs_u, hz]
  | 37 => by_cases hz : j = 0 <;> simp [cx_up, wM, cs_u, hz]
  | 38 => by_cases hz : j = 0 <;> simp [cx_up, wM, cs_u, hz]
  | 39 => by_cases hz : j = 0 <;> simp [cx_up, wM, cs_u, hz]
  | 40 => by_cases hz : j = 0 <;> simp [cx_up, wM, cs_u, hz]
  | k + 41 => simp [cx_up, wM]
theorem wM_f11 (u : cx_U) (ad : Nat → Nat → Nat) (T : cs_S) (sc : Nat → Nat → Int) {a b : Nat} (hb : b < 10) (x : Int) : cx_up (wM u ad T sc) 37 0 (ad 37 0, .inl (u.2 0, 100, .inl (fun z_ => jI (va_up (fun z_ => T 11 (z_ / 10) (z_ % 10)) (10 * a + b) x z_)))) = wM u ad (cs_u T 11 a b x) sc := by
  rw [cs_pf10 (T 11) hb x]
  funext k j
  match k with
  | 0 => simp [cx_up, wM]
  | 1 => simp [cx_up, wM]
  | 2 => simp [cx_up, wM]
  | 3 => simp [cx_up, wM]
  | 4 => simp [cx_up, wM]
  | 5 => simp [cx_up, wM]
  | 6 => simp [cx_up, wM]
  | 7 => simp [cx_up, wM]
  | 8 => simp [cx_up, wM]
  | 9 => simp [cx_up, wM]
  | 10 => simp [cx_up, wM]
  | 11 => simp [cx_up, wM]
  | 12 => simp [cx_up, wM]
  | 13 => simp [cx_up, wM]
  | 14 => simp [cx_up, wM]
  | 15 => simp [cx_up, wM]
  | 16 => simp [cx_up, wM]
  | 17 => simp [cx_up, wM]
  | 18 => simp [cx_up, wM]
  | 19 => simp [cx_up, wM]
  | 20 => by_cases hz : j = 0 <;> simp [cx_up, wM, cs_u, hz]
  | 21 => by_cases hz : j = 0 <;> simp [cx_up, wM, cs_u, hz]
  | 22 => by_cases hz : j = 0 <;> simp [cx_up, wM, cs_u, hz]
  | 23 => by_cases hz : j = 0 <;> simp [cx_up, wM, cs_u, hz]
  | 24 => by_cases hz : j = 0 <;> simp [cx_up, wM, cs_u, hz]
  | 25 => by_cases hz : j = 0 <;> simp [cx_up, wM, cs_u, hz]
  | 26 => by_cases hz : j = 0 <;> simp [cx_up, wM, cs_u, hz]
  | 27 => by_cases hz : j = 0 <;> simp [cx_up, wM, cs_u, hz]
  | 28 => by_cases hz : j = 0 <;> simp [cx_up, wM, cs_u, hz]
  | 29 => by_cases hz : j = 0 <;> simp [cx_up, wM, cs_u, hz]
  | 30 => by_cases hz : j = 0 <;> simp [cx_up, wM, cs_u, hz]
  | 31 => by_cases hz : j = 0 <;> simp [cx_up, wM, cs_u, hz]
  | 32 => by_cases hz : j = 0 <;> simp [cx_up, wM, cs_u, hz]
  | 33 => by_cases hz : j = 0 <;> simp [cx_up, wM, cs_u, hz]
  | 34 => by_cases hz : j = 0 <;> simp [cx_up, wM, cs_u, hz]
  | 35 => by_cases hz : j = 0 <;> simp [cx_up, wM, cs_u, hz]
  | 36 => by_cases hz : j = 0 <;> simp [cx_up, wM, cs_u, hz]
  | 37 => by_cases hz : j = 0 <;> simp [cx_up, wM, cs_u, hz]
  | 38 => by_cases hz : j = 0 <;> simp [cx_up, wM, cs_u, hz]
  | 39 => by_cases hz : j = 0 <;> simp [cx_up, wM, cs_u, hz]
  | 40 => by_cases hz : j = 0 <;> simp [cx_up, wM, cs_u, hz]
  | k + 41 => simp [cx_up, wM]
set_option maxHeartbeats 4000000 in
set_option maxRecDepth 100000 in
theorem c_M_penalty (l : Launch) (u : cx_U) (sz : Nat) (ad : Nat → Nat → Nat) (S : cs_S) (sc : Nat → Nat → Int) (hI : cs_I S) (a b : Int) (a1 : -2147483648 ≤ a) (a2 : a ≤ 2147483647) (b1 : -2147483648 ≤ b) (b2 : b ≤ 2147483647) : cx_M l u mn_M_penalty bc_M_penalty 3 (some .boolean) 1 25 [.ref (ad 20 0), .int (jI (a)), .int (jI (b))] (wM u ad S sc) sz (some (.int (jI (jB (1 ≤ a ∧ a ≤ 1000 ∧ 1 ≤ b ∧ b ≤ 1000))))) (fun w' => w' = wM u ad (op_pen S a b) sc) 0 0 := by
  refine cx_M.of (by decide +kernel) (Nat.le_of_ble_eq_true rfl) ?_
  intro p e s m args below meth c ls hsz X hr hlk hin B hl
  have X : CallFix p m c bc_M_penalty 3 s args GW "CatchSharesModel" := X
  have hl : lv_has ls 3 [(0, .ref (ad 20 0)), (1, .int (jI (a))), (2, .int (jI (b)))] := hl
  have hI1 := hI.1
  refine lv_iload_n X.1 X.2.1 dc_M_penalty_0 rfl (lv_at hl 1 rfl) ?_
  refine cx_i2l X (by omega) (by omega) dc_M_penalty_1 ?_
  refine cx_lconst (a := 1) X dc_M_penalty_2 (by decide +kernel) ?_
  refine cx_ldc2 (a := 1000) X gk_M_133 (by decide +kernel) dc_M_penalty_3 ?_
  refine cx_cSN (r := .int (jI (jB (1 ≤ a ∧ a ≤ 1000)))) (As := [.long (jL (a)), .long (jL (1)), .long (jL (1000))]) (rest := []) X B kc_M_in gm_M_82 (c_M_in l u _ a 1 1000 (by omega) (by omega) (by omega) (by omega) (by omega) (by omega)) (fun _ _ _ h => h) ⟨(Nat.le_of_ble_eq_true rfl), (Nat.le_of_ble_eq_true rfl)⟩ ⟨(Nat.le_of_ble_eq_true rfl), (Nat.le_of_ble_eq_true rfl)⟩ rfl hl.1 (Nat.le_of_ble_eq_true rfl) dc_M_penalty_6 rfl ?_
  refine cx_ifeqB (tgt := 24) X dc_M_penalty_9 (by decide) (fun c_1 => ?_) (fun c_1 => ?_)
  · refine cx_iconst X dc_M_penalty_24 ?_
    have hQ : ¬ (1 ≤ a ∧ a ≤ 1000 ∧ 1 ≤ b ∧ b ≤ 1000) := by (try simp only [cs_nn]); omega
    exact cx_zretM X B hsz hr hlk (Nat.le_of_ble_eq_true rfl) (Nat.le_of_ble_eq_true rfl) (by omega) (by omega) (by rw [jB_f hQ]) (by rw [op_pen, if_neg hQ]) dc_M_penalty_25
  · refine lv_iload_n X.1 X.2.1 dc_M_penalty_12 rfl (lv_at hl 2 rfl) ?_
    refine cx_i2l X (by omega) (by omega) dc_M_penalty_13 ?_
    refine cx_lconst (a := 1) X dc_M_penalty_14 (by decide +kernel) ?_
    refine cx_ldc2 (a := 1000) X gk_M_133 (by decide +kernel) dc_M_penalty_15 ?_
    refine cx_cSN (r := .int (jI (jB (1 ≤ b ∧ b ≤ 1000)))) (As := [.long (jL (b)), .long (jL (1)), .long (jL (1000))]) (rest := []) X B kc_M_in gm_M_82 (c_M_in l u _ b 1 1000 (by omega) (by omega) (by omega) (by omega) (by omega) (by omega)) (fun _ _ _ h => h) ⟨(Nat.le_of_ble_eq_true rfl), (Nat.le_of_ble_eq_true rfl)⟩ ⟨(Nat.le_of_ble_eq_true rfl), (Nat.le_of_ble_eq_true rfl)⟩ rfl hl.1 (Nat.le_of_ble_eq_true rfl) dc_M_penalty_18 rfl ?_
    refine cx_ifneB (tgt := 26) X dc_M_penalty_21 (by decide) (fun c_2 => ?_) (fun c_2 => ?_)
    · refine lv_aload_n X.1 X.2.1 dc_M_penalty_26 rfl (lv_at hl 0 rfl) ?_
      refine lv_iload_n X.1 X.2.1 dc_M_penalty_27 rfl (lv_at hl 1 rfl) ?_
      refine cx_put (v := .int (jI (a))) X B (wM_20 u ad S sc) rfl uw_M ft_M fo_M fn_M 19 (by decide) gf_M_60 rfl (fo_M 19 (by decide)) rfl rfl (Nat.le_of_ble_eq_true rfl) dc_M_penalty_28 (fun H locs B => ?_)
      have B : cx_B u (cx_A (wM u ad S sc) sz) (cx_up (wM u ad S sc) 20 0 (ad 20 0, .inr (4, [.int (jI (S 0 0 0)), .ref (ad 21 0), .ref (ad 22 0), .ref (ad 23 0), .ref (ad 24 0), .ref (ad 25 0), .ref (ad 26 0), .ref (ad 27 0), .ref (ad 28 0), .int (jI (S 1 0 0)), .ref (ad 29 0), .ref (ad 30 0), .ref (ad 31 0), .ref (ad 32 0), .ref (ad 33 0), .int (jI (S 2 0 0)), .ref (ad 34 0), .ref (ad 35 0), .ref (ad 36 0), .int (jI (a)), .int (jI (S 4 0 0)), .ref (ad 37 0), .ref (ad 38 0), .ref (ad 39 0), .ref (ad 40 0)]))) s H locs := B
      refine lv_aload_n X.1 X.2.1 dc_M_penalty_31 rfl (lv_at hl 0 rfl) ?_
      refine lv_iload_n X.1 X.2.1 dc_M_penalty_32 rfl (lv_at hl 2 rfl) ?_
      refine cx_put (v := .int (jI (b))) X B (cx_up_s _ _ _ _) rfl uw_M ft_M fo_M fn_M 20 (by decide) gf_M_64 rfl (fo_M 20 (by decide)) rfl rfl (Nat.le_of_ble_eq_true rfl) dc_M_penalty_33 (fun H locs B => ?_)
      have B : cx_B u (cx_A (wM u ad S sc) sz) (cx_up (cx_up (wM u ad S sc) 20 0 (ad 20 0, .inr (4, [.int (jI (S 0 0 0)), .ref (ad 21 0), .ref (ad 22 0), .ref (ad 23 0), .ref (ad 24 0), .ref (ad 25 0), .ref (ad 26 0), .ref (ad 27 0), .ref (ad 28 0), .int (jI (S 1 0 0)), .ref (ad 29 0), .ref (ad 30 0), .ref (ad 31 0), .ref (ad 32 0), .ref (ad 33 0), .int (jI (S 2 0 0)), .ref (ad 34 0), .ref (ad 35 0), .ref (ad 36 0), .int (jI (a)), .int (jI (S 4 0 0)), .ref (ad 37 0), .ref (ad 38 0), .ref (ad 39 0), .ref (ad 40 0)]))) 20 0 (ad 20 0, .inr (4, [.int (jI (S 0 0 0)), .ref (ad 21 0), .ref (ad 22 0), .ref (ad 23 0), .ref (ad 24 0), .ref (ad 25 0), .ref (ad 26 0), .ref (ad 27 0), .ref (ad 28 0), .int (jI (S 1 0 0)), .ref (ad 29 0), .ref (ad 30 0), .ref (ad 31 0), .ref (ad 32 0), .ref (ad 33 0), .int (jI (S 2 0 0)), .ref (ad 34 0), .ref (ad 35 0), .ref (ad 36 0), .int (jI (a)), .int (jI (b)), .ref (ad 37 0), .ref (ad 38 0), .ref (ad 39 0), .ref (ad 40 0)]))) s H locs := B
      refine cx_iconst X dc_M_penalty_36 ?_
      have hQ : 1 ≤ a ∧ a ≤ 1000 ∧ 1 ≤ b ∧ b ≤ 1000 := by (try simp only [cs_nn]); omega
      have hG : cx_up (cx_up (wM u ad S sc) 20 0 (ad 20 0, .inr (4, [.int (jI (S 0 0 0)), .ref (ad 21 0), .ref (ad 22 0), .ref (ad 23 0), .ref (ad 24 0), .ref (ad 25 0), .ref (ad 26 0), .ref (ad 27 0), .ref (ad 28 0), .int (jI (S 1 0 0)), .ref (ad 29 0), .ref (ad 30 0), .ref (ad 31 0), .ref (ad 32 0), .ref (ad 33 0), .int (jI (S 2 0 0)), .ref (ad 34 0), .ref (ad 35 0), .ref (ad 36 0), .int (jI (a)), .int (jI (S 4 0 0)), .ref (ad 37 0), .ref (ad 38 0), .ref (ad 39 0), .ref (ad 40 0)]))) 20 0 (ad 20 0, .inr (4, [.int (jI (S 0 0 0)), .ref (ad 21 0), .ref (ad 22 0), .ref (ad 23 0), .ref (ad 24 0), .ref (ad 25 0), .ref (ad 26 0), .ref (ad 27 0), .ref (ad 28 0), .int (jI (S 1 0 0)), .ref (ad 29 0), .ref (ad 30 0), .ref (ad 31 0), .ref (ad 32 0), .ref (ad 33 0), .int (jI (S 2 0 0)), .ref (ad 34 0), .ref (ad 35 0), .ref (ad 36 0), .int (jI (a)), .int (jI (b)), .ref (ad 37 0), .ref (ad 38 0), .ref (ad 39 0), .ref (ad 40 0)])) = wM u ad (op_pen S a b) sc := by
        rw [op_pen, if_pos hQ]
        try simp only [cs_nn]
        funext k j
        match k with
        | 0 => simp [cx_up, wM]
        | 1 => simp [cx_up, wM]
        | 2 => simp [cx_up, wM]
        | 3 => simp [cx_up, wM]
        | 4 => simp [cx_up, wM]
        | 5 => simp [cx_up, wM]
        | 6 => simp [cx_up, wM]
        | 7 => simp [cx_up, wM]
        | 8 => simp [cx_up, wM]
        | 9 => simp [cx_up, wM]
        | 10 => simp [cx_up, wM]
        | 11 => simp [cx_up, wM]
        | 12 => simp [cx_up, wM]
        | 13 => simp [cx_up, wM]
        | 14 => simp [cx_up, wM]
        | 15 => simp [cx_up, wM]
        | 16 => simp [cx_up, wM]
        | 17 => simp [cx_up, wM]
        | 18 => simp [cx_up, wM]
        | 19 => simp [cx_up, wM]
        | 20 => by_cases hz : j = 0 <;> simp [cx_up, wM, cs_u, hz, va_upE, Int.toNat_natCast]
        | 21 => by_cases hz : j = 0 <;> simp [cx_up, wM, cs_u, hz, va_upE, Int.toNat_natCast]
        | 22 => by_cases hz : j = 0 <;> simp [cx_up, wM, cs_u, hz, va_upE, Int.toNat_natCast]
        | 23 => by_cases hz : j = 0 <;> simp [cx_up, wM, cs_u, hz, va_upE, Int.toNat_natCast]
        | 24 => by_cases hz : j = 0 <;> simp [cx_up, wM, cs_u, hz, va_upE, Int.toNat_natCast]
        | 25 => by_cases hz : j = 0 <;> simp [cx_up, wM, cs_u, hz, va_upE, Int.toNat_natCast]
        | 26 => by_cases hz : j = 0 <;> simp [cx_up, wM, cs_u, hz, va_upE, Int.toNat_natCast]
        | 27 => by_cases hz : j = 0 <;> simp [cx_up, wM, cs_u, hz, va_upE, Int.toNat_natCast]
        | 28 => by_cases hz : j = 0 <;> simp [cx_up, wM, cs_u, hz, va_upE, Int.toNat_natCast]
        | 29 => by_cases hz : j = 0 <;> simp [cx_up, wM, cs_u, hz, va_upE, Int.toNat_natCast]
        | 30 => by_cases hz : j = 0 <;> simp [cx_up, wM, cs_u, hz, va_upE, Int.toNat_natCast]
        | 31 => by_cases hz : j = 0 <;> simp [cx_up, wM, cs_u, hz, va_upE, Int.toNat_natCast]
        | 32 => by_cases hz : j = 0 <;> simp [cx_up, wM, cs_u, hz, va_upE, Int.toNat_natCast]
        | 33 => by_cases hz : j = 0 <;> simp [cx_up, wM, cs_u, hz, va_upE, Int.toNat_natCast]
        | 34 => by_cases hz : j = 0 <;> simp [cx_up, wM, cs_u, hz, va_upE, Int.toNat_natCast]
        | 35 => by_cases hz : j = 0 <;> simp [cx_up, wM, cs_u, hz, va_upE, Int.toNat_natCast]
        | 36 => by_cases hz : j = 0 <;> simp [cx_up, wM, cs_u, hz, va_upE, Int.toNat_natCast]
        | 37 => by_cases hz : j = 0 <;> simp [cx_up, wM, cs_u, hz, va_upE, Int.toNat_natCast]
        | 38 => by_cases hz : j = 0 <;> simp [cx_up, wM, cs_u, hz, va_upE, Int.toNat_natCast]
        | 39 => by_cases hz : j = 0 <;> simp [cx_up, wM, cs_u, hz, va_upE, Int.toNat_natCast]
        | 40 => by_cases hz : j = 0 <;> simp [cx_up, wM, cs_u, hz, va_upE, Int.toNat_natCast]
        | k + 41 => simp [cx_up, wM]
      exact cx_zretM X B hsz hr hlk (Nat.le_of_ble_eq_true rfl) (Nat.le_of_ble_eq_true rfl) (by omega) (by omega) (by rw [jB_t hQ]) (hG) dc_M_penalty_37
    · refine cx_iconst X dc_M_penalty_24 ?_
      have hQ : ¬ (1 ≤ a ∧ a ≤ 1000 ∧ 1 ≤ b ∧ b ≤ 1000) := by (try simp only [cs_nn]); omega
      exact cx_zretM X B hsz hr hlk (Nat.le_of_ble_eq_true rfl) (Nat.le_of_ble_eq_true rfl) (by omega) (by omega) (by rw [jB_f hQ]) (by rw [op_pen, if_neg hQ]) dc_M_penalty_25
set_option maxHeartbeats 4000000 in
set_option maxRecDepth 100000 in
theorem c_M_into (l : Launch) (u : cx_U) (sz : Nat) (ad : Nat → Nat → Nat) (S : cs_S) (sc : Nat → Nat → Int) (hI : cs_I S) (a b : Int) (a1 : -2147483648 ≤ a) (a2 : a ≤ 2147483647) (b1 : -2147483648 ≤ b) (b2 : b ≤ 2147483647) : cx_M l u mn_M_into bc_M_into 3 (some .boolean) 2 46 [.ref (ad 20 0), .int (jI (a)), .int (jI (b))] (wM u ad S sc) sz (some (.int (jI (jB (0 ≤ a ∧ a < S 1 0 0 ∧ -1 ≤ b ∧ b ≤ 3))))) (fun w' => w' = wM u ad (op_into S a b) sc) 0 0 := by
  refine cx_M.of (by decide +kernel) (Nat.le_of_ble_eq_true rfl) ?_
  intro p e s m args below meth c ls hsz X hr hlk hin B hl
  have X : CallFix p m c bc_M_into 3 s args GW "CatchSharesModel" := X
  have hl : lv_has ls 3 [(0, .ref (ad 20 0)), (1, .int (jI (a))), (2, .int (jI (b)))] := hl
  have hI1 := hI.1
  refine lv_aload_n X.1 X.2.1 dc_M_into_0 rfl (lv_at hl 0 rfl) ?_
  refine lv_iload_n X.1 X.2.1 dc_M_into_1 rfl (lv_at hl 1 rfl) ?_
  refine cx_cVN (r := .int (jI (jB (0 ≤ a ∧ a < S 1 0 0)))) (As := [.int (jI (a))]) (rest := []) X B kc_M_isHolder gm_M_100 (c_M_isHolder l u ad S sc hI a (by omega) (by omega)) (fun _ _ _ h => h) (wM_20 u ad S sc) rfl rfl ⟨(Nat.le_of_ble_eq_true rfl), (Nat.le_of_ble_eq_true rfl)⟩ ⟨(Nat.le_of_ble_eq_true rfl), (Nat.le_of_ble_eq_true rfl)⟩ rfl hl.1 (Nat.le_of_ble_eq_true rfl) dc_M_into_2 rfl ?_
  refine cx_ifeqB (tgt := 22) X dc_M_into_5 (by decide) (fun c_1 => ?_) (fun c_1 => ?_)
  · refine cx_iconst X dc_M_into_22 ?_
    have hQ : ¬ (0 ≤ a ∧ a < S 1 0 0 ∧ -1 ≤ b ∧ b ≤ 3) := by (try simp only [cs_nn]); omega
    exact cx_zretM X B hsz hr hlk (Nat.le_of_ble_eq_true rfl) (Nat.le_of_ble_eq_true rfl) (by omega) (by omega) (by rw [jB_f hQ]) (by rw [op_into, if_neg hQ]) dc_M_into_23
  · obtain ⟨h, rfl⟩ : ∃ h : Nat, a = (h : Int) := ⟨a.toNat, by omega⟩
    have hh : (h : Int) < S 1 0 0 := by omega
    refine lv_iload_n X.1 X.2.1 dc_M_into_8 rfl (lv_at hl 2 rfl) ?_
    refine cx_i2l X (by omega) (by omega) dc_M_into_9 ?_
    refine cx_ldc2 (a := -1) X gk_M_109 (by decide +kernel) dc_M_into_10 ?_
    refine cx_ldc2 (a := 3) X gk_M_140 (by decide +kernel) dc_M_into_13 ?_
    refine cx_cSN (r := .int (jI (jB ((-1) ≤ b ∧ b ≤ 3)))) (As := [.long (jL (b)), .long (jL (-1)), .long (jL (3))]) (rest := []) X B kc_M_in gm_M_82 (c_M_in l u _ b (-1) 3 (by omega) (by omega) (by omega) (by omega) (by omega) (by omega)) (fun _ _ _ h => h) ⟨(Nat.le_of_ble_eq_true rfl), (Nat.le_of_ble_eq_true rfl)⟩ ⟨(Nat.le_of_ble_eq_true rfl), (Nat.le_of_ble_eq_true rfl)⟩ rfl hl.1 (Nat.le_of_ble_eq_true rfl) dc_M_into_16 rfl ?_
    refine cx_ifneB (tgt := 24) X dc_M_into_19 (by decide) (fun c_2 => ?_) (fun c_2 => ?_)
    · refine lv_aload_n X.1 X.2.1 dc_M_into_24 rfl (lv_at hl 0 rfl) ?_
      refine cx_get (v := .ref (ad 30 0)) X B (wM_20 u ad S sc) rfl uw_M 11 (by decide) gf_M_39 rfl dc_M_into_25 ?_
      refine lv_iload_n X.1 X.2.1 dc_M_into_28 rfl (lv_at hl 1 rfl) ?_
      refine lv_iload_n X.1 X.2.1 dc_M_into_29 rfl (lv_at hl 2 rfl) ?_
      refine cx_iast X B (wM_30 u ad S sc) (h) (by omega) (by omega) (by decide) dc_M_into_30 (fun H locs B => ?_)
      have B : cx_B u (cx_A (wM u ad S sc) sz) (cx_up (wM u ad S sc) 30 0 (ad 30 0, .inl (u.2 0, 12, .inl (fun z_ => jI (va_up (fun z_ => S 6 z_ 0) h b z_))))) s H locs := B
      refine cx_iconst X dc_M_into_31 ?_
      have hQ : 0 ≤ (h : Int) ∧ (h : Int) < S 1 0 0 ∧ -1 ≤ b ∧ b ≤ 3 := by (try simp only [cs_nn]); omega
      have hG : cx_up (wM u ad S sc) 30 0 (ad 30 0, .inl (u.2 0, 12, .inl (fun z_ => jI (va_up (fun z_ => S 6 z_ 0) h b z_)))) = wM u ad (op_into S (h : Int) b) sc := by
        rw [op_into, if_pos hQ]
        try simp only [cs_nn]
        funext k j
        match k with
        | 0 => simp [cx_up, wM]
        | 1 => simp [cx_up, wM]
        | 2 => simp [cx_up, wM]
        | 3 => simp [cx_up, wM]
        | 4 => simp [cx_up, wM]
        | 5 => simp [cx_up, wM]
        | 6 => simp [cx_up, wM]
        | 7 => simp [cx_up, wM]
        | 8 => simp [cx_up, wM]
        | 9 => simp [cx_up, wM]
        | 10 => simp [cx_up, wM]
        | 11 => simp [cx_up, wM]
        | 12 => simp [cx_up, wM]
        | 13 => simp [cx_up, wM]
        | 14 => simp [cx_up, wM]
        | 15 => simp [cx_up, wM]
        | 16 => simp [cx_up, wM]
        | 17 => simp [cx_up, wM]
        | 18 => simp [cx_up, wM]
        | 19 => simp [cx_up, wM]
        | 20 => by_cases hz : j = 0 <;> simp [cx_up, wM, cs_u, hz, va_upE, Int.toNat_natCast]
        | 21 => by_cases hz : j = 0 <;> simp [cx_up, wM, cs_u, hz, va_upE, Int.toNat_natCast]
        | 22 => by_cases hz : j = 0 <;> simp [cx_up, wM, cs_u, hz, va_upE, Int.toNat_natCast]
        | 23 => by_cases hz : j = 0 <;> simp [cx_up, wM, cs_u, hz, va_upE, Int.toNat_natCast]
        | 24 => by_cases hz : j = 0 <;> simp [cx_up, wM, cs_u, hz, va_upE, Int.toNat_natCast]
        | 25 => by_cases hz : j = 0 <;> simp [cx_up, wM, cs_u, hz, va_upE, Int.toNat_natCast]
        | 26 => by_cases hz : j = 0 <;> simp [cx_up, wM, cs_u, hz, va_upE, Int.toNat_natCast]
        | 27 => by_cases hz : j = 0 <;> simp [cx_up, wM, cs_u, hz, va_upE, Int.toNat_natCast]
        | 28 => by_cases hz : j = 0 <;> simp [cx_up, wM, cs_u, hz, va_upE, Int.toNat_natCast]
        | 29 => by_cases hz : j = 0 <;> simp [cx_up, wM, cs_u, hz, va_upE, Int.toNat_natCast]
        | 30 => by_cases hz : j = 0 <;> simp [cx_up, wM, cs_u, hz, va_upE, Int.toNat_natCast]
        | 31 => by_cases hz : j = 0 <;> simp [cx_up, wM, cs_u, hz, va_upE, Int.toNat_natCast]
        | 32 => by_cases hz : j = 0 <;> simp [cx_up, wM, cs_u, hz, va_upE, Int.toNat_natCast]
        | 33 => by_cases hz : j = 0 <;> simp [cx_up, wM, cs_u, hz, va_upE, Int.toNat_natCast]
        | 34 => by_cases hz : j = 0 <;> simp [cx_up, wM, cs_u, hz, va_upE, Int.toNat_natCast]
        | 35 => by_cases hz : j = 0 <;> simp [cx_up, wM, cs_u, hz, va_upE, Int.toNat_natCast]
        | 36 => by_cases hz : j = 0 <;> simp [cx_up, wM, cs_u, hz, va_upE, Int.toNat_natCast]
        | 37 => by_cases hz : j = 0 <;> simp [cx_up, wM, cs_u, hz, va_upE, Int.toNat_natCast]
        | 38 => by_cases hz : j = 0 <;> simp [cx_up, wM, cs_u, hz, va_upE, Int.toNat_natCast]
        | 39 => by_cases hz : j = 0 <;> simp [cx_up, wM, cs_u, hz, va_upE, Int.toNat_natCast]
        | 40 => by_cases hz : j = 0 <;> simp [cx_up, wM, cs_u, hz, va_upE, Int.toNat_natCast]
        | k + 41 => simp [cx_up, wM]
      exact cx_zretM X B hsz hr hlk (Nat.le_of_ble_eq_true rfl) (Nat.le_of_ble_eq_true rfl) (by omega) (by omega) (by rw [jB_t hQ]) (hG) dc_M_into_32
    · refine cx_iconst X dc_M_into_22 ?_
      have hQ : ¬ (0 ≤ (h : Int) ∧ (h : Int) < S 1 0 0 ∧ -1 ≤ b ∧ b ≤ 3) := by (try simp only [cs_nn]); omega
      exact cx_zretM X B hsz hr hlk (Nat.le_of_ble_eq_true rfl) (Nat.le_of_ble_eq_true rfl) (by omega) (by omega) (by rw [jB_f hQ]) (by rw [op_into, if_neg hQ]) dc_M_into_23
set_option maxHeartbeats 4000000 in
set_option maxRecDepth 100000 in
theorem c_M_cap (l : Launch) (u : cx_U) (sz : Nat) (ad : Nat → Nat → Nat) (S : cs_S) (sc : Nat → Nat → Int) (hI : cs_I S) (a b : Int) (a1 : -2147483648 ≤ a) (a2 : a ≤ 2147483647) (b1 : -2147483648 ≤ b) (b2 : b ≤ 2147483647) : cx_M l u mn_M_cap bc_M_cap 3 (some .boolean) 2 46 [.ref (ad 20 0), .int (jI (a)), .int (jI (b))] (wM u ad S sc) sz (some (.int (jI (jB (0 ≤ a ∧ a < S 0 0 0 ∧ 0 ≤ b ∧ b ≤ 100))))) (fun w' => w' = wM u ad (op_cap S a b) sc) 0 0 := by
  refine cx_M.of (by decide +kernel) (Nat.le_of_ble_eq_true rfl) ?_
  intro p e s m args below meth c ls hsz X hr hlk hin B hl
  have X : CallFix p m c bc_M_cap 3 s args GW "CatchSharesModel" := X
  have hl : lv_has ls 3 [(0, .ref (ad 20 0)), (1, .int (jI (a))), (2, .int (jI (b)))] := hl
  have hI1 := hI.1
  refine lv_aload_n X.1 X.2.1 dc_M_cap_0 rfl (lv_at hl 0 rfl) ?_
  refine lv_iload_n X.1 X.2.1 dc_M_cap_1 rfl (lv_at hl 1 rfl) ?_
  refine cx_cVN (r := .int (jI (jB (0 ≤ a ∧ a < S 0 0 0)))) (As := [.int (jI (a))]) (rest := []) X B kc_M_isStock gm_M_97 (c_M_isStock l u ad S sc hI a (by omega) (by omega)) (fun _ _ _ h => h) (wM_20 u ad S sc) rfl rfl ⟨(Nat.le_of_ble_eq_true rfl), (Nat.le_of_ble_eq_true rfl)⟩ ⟨(Nat.le_of_ble_eq_true rfl), (Nat.le_of_ble_eq_true rfl)⟩ rfl hl.1 (Nat.le_of_ble_eq_true rfl) dc_M_cap_2 rfl ?_
  refine cx_ifeqB (tgt := 20) X dc_M_cap_5 (by decide) (fun c_1 => ?_) (fun c_1 => ?_)
  · refine cx_iconst X dc_M_cap_20 ?_
    have hQ : ¬ (0 ≤ a ∧ a < S 0 0 0 ∧ 0 ≤ b ∧ b ≤ 100) := by (try simp only [cs_nn]); omega
    exact cx_zretM X B hsz hr hlk (Nat.le_of_ble_eq_true rfl) (Nat.le_of_ble_eq_true rfl) (by omega) (by omega) (by rw [jB_f hQ]) (by rw [op_cap, if_neg hQ]) dc_M_cap_21
  · obtain ⟨i, rfl⟩ : ∃ i : Nat, a = (i : Int) := ⟨a.toNat, by omega⟩
    have hi : (i : Int) < S 0 0 0 := by omega
    refine lv_iload_n X.1 X.2.1 dc_M_cap_8 rfl (lv_at hl 2 rfl) ?_
    refine cx_i2l X (by omega) (by omega) dc_M_cap_9 ?_
    refine cx_lconst (a := 0) X dc_M_cap_10 (by decide +kernel) ?_
    refine cx_ldc2 (a := 100) X gk_M_142 (by decide +kernel) dc_M_cap_11 ?_
    refine cx_cSN (r := .int (jI (jB (0 ≤ b ∧ b ≤ 100)))) (As := [.long (jL (b)), .long (jL (0)), .long (jL (100))]) (rest := []) X B kc_M_in gm_M_82 (c_M_in l u _ b 0 100 (by omega) (by omega) (by omega) (by omega) (by omega) (by omega)) (fun _ _ _ h => h) ⟨(Nat.le_of_ble_eq_true rfl), (Nat.le_of_ble_eq_true rfl)⟩ ⟨(Nat.le_of_ble_eq_true rfl), (Nat.le_of_ble_eq_true rfl)⟩ rfl hl.1 (Nat.le_of_ble_eq_true rfl) dc_M_cap_14 rfl ?_
    refine cx_ifneB (tgt := 22) X dc_M_cap_17 (by decide) (fun c_2 => ?_) (fun c_2 => ?_)
    · refine lv_aload_n X.1 X.2.1 dc_M_cap_22 rfl (lv_at hl 0 rfl) ?_
      refine cx_get (v := .ref (ad 25 0)) X B (wM_20 u ad S sc) rfl uw_M 5 (by decide) gf_M_24 rfl dc_M_cap_23 ?_
      refine lv_iload_n X.1 X.2.1 dc_M_cap_26 rfl (lv_at hl 1 rfl) ?_
      refine lv_iload_n X.1 X.2.1 dc_M_cap_27 rfl (lv_at hl 2 rfl) ?_
      refine cx_iast X B (wM_25 u ad S sc) (i) (by omega) (by omega) (by decide) dc_M_cap_28 (fun H locs B => ?_)
      have B : cx_B u (cx_A (wM u ad S sc) sz) (cx_up (wM u ad S sc) 25 0 (ad 25 0, .inl (u.2 0, 8, .inl (fun z_ => jI (va_up (fun z_ => S 16 z_ 0) i b z_))))) s H locs := B
      refine cx_iconst X dc_M_cap_29 ?_
      have hQ : 0 ≤ (i : Int) ∧ (i : Int) < S 0 0 0 ∧ 0 ≤ b ∧ b ≤ 100 := by (try simp only [cs_nn]); omega
      have hG : cx_up (wM u ad S sc) 25 0 (ad 25 0, .inl (u.2 0, 8, .inl (fun z_ => jI (va_up (fun z_ => S 16 z_ 0) i b z_)))) = wM u ad (op_cap S (i : Int) b) sc := by
        rw [op_cap, if_pos hQ]
        try simp only [cs_nn]
        funext k j
        match k with
        | 0 => simp [cx_up, wM]
        | 1 => simp [cx_up, wM]
        | 2 => simp [cx_up, wM]
        | 3 => simp [cx_up, wM]
        | 4 => simp [cx_up, wM]
        | 5 => simp [cx_up, wM]
        | 6 => simp [cx_up, wM]
        | 7 => simp [cx_up, wM]
        | 8 => simp [cx_up, wM]
        | 9 => simp [cx_up, wM]
        | 10 => simp [cx_up, wM]
        | 11 => simp [cx_up, wM]
        | 12 => simp [cx_up, wM]
        | 13 => simp [cx_up, wM]
        | 14 => simp [cx_up, wM]
        | 15 => simp [cx_up, wM]
        | 16 => simp [cx_up, wM]
        | 17 => simp [cx_up, wM]
        | 18 => simp [cx_up, wM]
        | 19 => simp [cx_up, wM]
        | 20 => by_cases hz : j = 0 <;> simp [cx_up, wM, cs_u, hz, va_upE, Int.toNat_natCast]
        | 21 => by_cases hz : j = 0 <;> simp [cx_up, wM, cs_u, hz, va_upE, Int.toNat_natCast]
        | 22 => by_cases hz : j = 0 <;> simp [cx_up, wM, cs_u, hz, va_upE, Int.toNat_natCast]
        | 23 => by_cases hz : j = 0 <;> simp [cx_up, wM, cs_u, hz, va_upE, Int.toNat_natCast]
        | 24 => by_cases hz : j = 0 <;> simp [cx_up, wM, cs_u, hz, va_upE, Int.toNat_natCast]
        | 25 => by_cases hz : j = 0 <;> simp [cx_up, wM, cs_u, hz, va_upE, Int.toNat_natCast]
        | 26 => by_cases hz : j = 0 <;> simp [cx_up, wM, cs_u, hz, va_upE, Int.toNat_natCast]
        | 27 => by_cases hz : j = 0 <;> simp [cx_up, wM, cs_u, hz, va_upE, Int.toNat_natCast]
        | 28 => by_cases hz : j = 0 <;> simp [cx_up, wM, cs_u, hz, va_upE, Int.toNat_natCast]
        | 29 => by_cases hz : j = 0 <;> simp [cx_up, wM, cs_u, hz, va_upE, Int.toNat_natCast]
        | 30 => by_cases hz : j = 0 <;> simp [cx_up, wM, cs_u, hz, va_upE, Int.toNat_natCast]
        | 31 => by_cases hz : j = 0 <;> simp [cx_up, wM, cs_u, hz, va_upE, Int.toNat_natCast]
        | 32 => by_cases hz : j = 0 <;> simp [cx_up, wM, cs_u, hz, va_upE, Int.toNat_natCast]
        | 33 => by_cases hz : j = 0 <;> simp [cx_up, wM, cs_u, hz, va_upE, Int.toNat_natCast]
        | 34 => by_cases hz : j = 0 <;> simp [cx_up, wM, cs_u, hz, va_upE, Int.toNat_natCast]
        | 35 => by_cases hz : j = 0 <;> simp [cx_up, wM, cs_u, hz, va_upE, Int.toNat_natCast]
        | 36 => by_cases hz : j = 0 <;> simp [cx_up, wM, cs_u, hz, va_upE, Int.toNat_natCast]
        | 37 => by_cases hz : j = 0 <;> simp [cx_up, wM, cs_u, hz, va_upE, Int.toNat_natCast]
        | 38 => by_cases hz : j = 0 <;> simp [cx_up, wM, cs_u, hz, va_upE, Int.toNat_natCast]
        | 39 => by_cases hz : j = 0 <;> simp [cx_up, wM, cs_u, hz, va_upE, Int.toNat_natCast]
        | 40 => by_cases hz : j = 0 <;> simp [cx_up, wM, cs_u, hz, va_upE, Int.toNat_natCast]
        | k + 41 => simp [cx_up, wM]
      exact cx_zretM X B hsz hr hlk (Nat.le_of_ble_eq_true rfl) (Nat.le_of_ble_eq_true rfl) (by omega) (by omega) (by rw [jB_t hQ]) (hG) dc_M_cap_30
    · refine cx_iconst X dc_M_cap_20 ?_
      have hQ : ¬ (0 ≤ (i : Int) ∧ (i : Int) < S 0 0 0 ∧ 0 ≤ b ∧ b ≤ 100) := by (try simp only [cs_nn]); omega
      exact cx_zretM X B hsz hr hlk (Nat.le_of_ble_eq_true rfl) (Nat.le_of_ble_eq_true rfl) (by omega) (by omega) (by rw [jB_f hQ]) (by rw [op_cap, if_neg hQ]) dc_M_cap_21
set_option maxHeartbeats 4000000 in
set_option maxRecDepth 100000 in
theorem c_M_weight (l : Launch) (u : cx_U) (sz : Nat) (ad : Nat → Nat → Nat) (S : cs_S) (sc : Nat → Nat → Int) (hI : cs_I S) (a b : Int) (a1 : -2147483648 ≤ a) (a2 : a ≤ 2147483647) (b1 : -2147483648 ≤ b) (b2 : b ≤ 2147483647) (x : Int) (x1 : -9223372036854775808 ≤ x) (x2 : x ≤ 9223372036854775807) : cx_M l u mn_M_weight bc_M_weight 5 (some .boolean) 2 46 [.ref (ad 20 0), .int (jI (a)), .int (jI (b)), .long (jL (x))] (wM u ad S sc) sz (some (.int (jI (jB (0 ≤ a ∧ a < S 0 0 0 ∧ 0 ≤ b ∧ b < S 1 0 0 ∧ S 14 a.toNat 0 = 0 ∧ 0 ≤ x ∧ x ≤ 1000000))))) (fun w' => w' = wM u ad (op_weight S a b x) sc) 0 0 := by
  refine cx_M.of (by decide +kernel) (Nat.le_of_ble_eq_true rfl) ?_
  intro p e s m args below meth c ls hsz X hr hlk hin B hl
  have X : CallFix p m c bc_M_weight 5 s args GW "CatchSharesModel" := X
  have hl : lv_has ls 5 [(0, .ref (ad 20 0)), (1, .int (jI (a))), (2, .int (jI (b))), (3, .long (jL (x)))] := hl
  have hI1 := hI.1
  have hI5 := hI.2.2.2.2.1
  refine lv_aload_n X.1 X.2.1 dc_M_weight_0 rfl (lv_at hl 0 rfl) ?_
  refine lv_iload_n X.1 X.2.1 dc_M_weight_1 rfl (lv_at hl 1 rfl) ?_
  refine cx_cVN (r := .int (jI (jB (0 ≤ a ∧ a < S 0 0 0)))) (As := [.int (jI (a))]) (rest := []) X B kc_M_isStock gm_M_97 (c_M_isStock l u ad S sc hI a (by omega) (by omega)) (fun _ _ _ h => h) (wM_20 u ad S sc) rfl rfl ⟨(Nat.le_of_ble_eq_true rfl), (Nat.le_of_ble_eq_true rfl)⟩ ⟨(Nat.le_of_ble_eq_true rfl), (Nat.le_of_ble_eq_true rfl)⟩ rfl hl.1 (Nat.le_of_ble_eq_true rfl) dc_M_weight_2 rfl ?_
  refine cx_ifeqB (tgt := 36) X dc_M_weight_5 (by decide) (fun c_1 => ?_) (fun c_1 => ?_)
  · refine cx_iconst X dc_M_weight_36 ?_
    have hQ : ¬ (0 ≤ a ∧ a < S 0 0 0 ∧ 0 ≤ b ∧ b < S 1 0 0 ∧ S 14 a.toNat 0 = 0 ∧ 0 ≤ x ∧ x ≤ 1000000) := by (try simp only [cs_nn]); omega
    exact cx_zretM X B hsz hr hlk (Nat.le_of_ble_eq_true rfl) (Nat.le_of_ble_eq_true rfl) (by omega) (by omega) (by rw [jB_f hQ]) (by rw [op_weight, if_neg hQ]) dc_M_weight_37
  · obtain ⟨i, rfl⟩ : ∃ i : Nat, a = (i : Int) := ⟨a.toNat, by omega⟩
    have hi : (i : Int) < S 0 0 0 := by omega
    refine lv_aload_n X.1 X.2.1 dc_M_weight_8 rfl (lv_at hl 0 rfl) ?_
    refine lv_iload_n X.1 X.2.1 dc_M_weight_9 rfl (lv_at hl 2 rfl) ?_
    refine cx_cVN (r := .int (jI (jB (0 ≤ b ∧ b < S 1 0 0)))) (As := [.int (jI (b))]) (rest := []) X B kc_M_isHolder gm_M_100 (c_M_isHolder l u ad S sc hI b (by omega) (by omega)) (fun _ _ _ h => h) (wM_20 u ad S sc) rfl rfl ⟨(Nat.le_of_ble_eq_true rfl), (Nat.le_of_ble_eq_true rfl)⟩ ⟨(Nat.le_of_ble_eq_true rfl), (Nat.le_of_ble_eq_true rfl)⟩ rfl hl.1 (Nat.le_of_ble_eq_true rfl) dc_M_weight_10 rfl ?_
    refine cx_ifeqB (tgt := 36) X dc_M_weight_13 (by decide) (fun c_2 => ?_) (fun c_2 => ?_)
    · refine cx_iconst X dc_M_weight_36 ?_
      have hQ : ¬ (0 ≤ (i : Int) ∧ (i : Int) < S 0 0 0 ∧ 0 ≤ b ∧ b < S 1 0 0 ∧ S 14 (i : Int).toNat 0 = 0 ∧ 0 ≤ x ∧ x ≤ 1000000) := by (try simp only [cs_nn]); omega
      exact cx_zretM X B hsz hr hlk (Nat.le_of_ble_eq_true rfl) (Nat.le_of_ble_eq_true rfl) (by omega) (by omega) (by rw [jB_f hQ]) (by rw [op_weight, if_neg hQ]) dc_M_weight_37
    · obtain ⟨h, rfl⟩ : ∃ h : Nat, b = (h : Int) := ⟨b.toNat, by omega⟩
      have hh : (h : Int) < S 1 0 0 := by omega
      refine lv_aload_n X.1 X.2.1 dc_M_weight_16 rfl (lv_at hl 0 rfl) ?_
      refine cx_get (v := .ref (ad 24 0)) X B (wM_20 u ad S sc) rfl uw_M 4 (by decide) gf_M_20 rfl dc_M_weight_17 ?_
      refine lv_iload_n X.1 X.2.1 dc_M_weight_20 rfl (lv_at hl 1 rfl) ?_
      refine cx_zald X B (wM_24 u ad S sc) (i) (by omega) (by omega) (by decide) dc_M_weight_21 ?_
      have r_3 := hI5 i
      refine cx_if_ne (tgt := 36) X (by omega) (by omega) dc_M_weight_22 (by decide) (fun c_4 => ?_) (fun c_4 => ?_)
      · refine cx_iconst X dc_M_weight_36 ?_
        have hQ : ¬ (0 ≤ (i : Int) ∧ (i : Int) < S 0 0 0 ∧ 0 ≤ (h : Int) ∧ (h : Int) < S 1 0 0 ∧ S 14 (i : Int).toNat 0 = 0 ∧ 0 ≤ x ∧ x ≤ 1000000) := by (try simp only [cs_nn]); omega
        exact cx_zretM X B hsz hr hlk (Nat.le_of_ble_eq_true rfl) (Nat.le_of_ble_eq_true rfl) (by omega) (by omega) (by rw [jB_f hQ]) (by rw [op_weight, if_neg hQ]) dc_M_weight_37
      · refine lv_lload_n X.1 X.2.1 dc_M_weight_25 rfl (lv_at hl 3 rfl) ?_
        refine cx_lconst (a := 0) X dc_M_weight_26 (by decide +kernel) ?_
        refine cx_ldc2 (a := 1000000) X gk_M_103 (by decide +kernel) dc_M_weight_27 ?_
        refine cx_cSN (r := .int (jI (jB (0 ≤ x ∧ x ≤ 1000000)))) (As := [.long (jL (x)), .long (jL (0)), .long (jL (1000000))]) (rest := []) X B kc_M_in gm_M_82 (c_M_in l u _ x 0 1000000 (by omega) (by omega) (by omega) (by omega) (by omega) (by omega)) (fun _ _ _ h => h) ⟨(Nat.le_of_ble_eq_true rfl), (Nat.le_of_ble_eq_true rfl)⟩ ⟨(Nat.le_of_ble_eq_true rfl), (Nat.le_of_ble_eq_true rfl)⟩ rfl hl.1 (Nat.le_of_ble_eq_true rfl) dc_M_weight_30 rfl ?_
        refine cx_ifneB (tgt := 38) X dc_M_weight_33 (by decide) (fun c_5 => ?_) (fun c_5 => ?_)
        · refine lv_aload_n X.1 X.2.1 dc_M_weight_38 rfl (lv_at hl 0 rfl) ?_
          refine cx_get (v := .ref (ad 31 0)) X B (wM_20 u ad S sc) rfl uw_M 12 (by decide) gf_M_42 rfl dc_M_weight_39 ?_
          refine cx_bipush X dc_M_weight_42 (by decide +kernel) ?_
          refine lv_iload_n X.1 X.2.1 dc_M_weight_44 rfl (lv_at hl 1 rfl) ?_
          refine cx_imul X dc_M_weight_45 ?_
          refine lv_iload_n X.1 X.2.1 dc_M_weight_46 rfl (lv_at hl 2 rfl) ?_
          refine cx_iadd X dc_M_weight_47 ?_
          refine lv_lload_n X.1 X.2.1 dc_M_weight_48 rfl (lv_at hl 3 rfl) ?_
          refine cx_last X B (wM_31 u ad S sc) ((12 * i) + h) (by omega) (by omega) (by decide) dc_M_weight_49 (fun H locs B => ?_)
          have B : cx_B u (cx_A (wM u ad S sc) sz) (cx_up (wM u ad S sc) 31 0 (ad 31 0, .inl (u.2 1, 96, .inr (.inl (fun z_ => jL (va_up (fun z_ => S 20 (z_ / 12) (z_ % 12)) ((12 * i) + h) x z_)))))) s H locs := B
          refine cx_iconst X dc_M_weight_50 ?_
          have hQ : 0 ≤ (i : Int) ∧ (i : Int) < S 0 0 0 ∧ 0 ≤ (h : Int) ∧ (h : Int) < S 1 0 0 ∧ S 14 (i : Int).toNat 0 = 0 ∧ 0 ≤ x ∧ x ≤ 1000000 := by (try simp only [cs_nn]); omega
          have hG : cx_up (wM u ad S sc) 31 0 (ad 31 0, .inl (u.2 1, 96, .inr (.inl (fun z_ => jL (va_up (fun z_ => S 20 (z_ / 12) (z_ % 12)) ((12 * i) + h) x z_))))) = wM u ad (op_weight S (i : Int) (h : Int) x) sc := by
            rw [op_weight, if_pos hQ]
            try simp only [cs_nn]
            exact wM_f20 u ad S sc (by omega) x
          exact cx_zretM X B hsz hr hlk (Nat.le_of_ble_eq_true rfl) (Nat.le_of_ble_eq_true rfl) (by omega) (by omega) (by rw [jB_t hQ]) (hG) dc_M_weight_51
        · refine cx_iconst X dc_M_weight_36 ?_
          have hQ : ¬ (0 ≤ (i : Int) ∧ (i : Int) < S 0 0 0 ∧ 0 ≤ (h : Int) ∧ (h : Int) < S 1 0 0 ∧ S 14 (i : Int).toNat 0 = 0 ∧ 0 ≤ x ∧ x ≤ 1000000) := by (try simp only [cs_nn]); omega
          exact cx_zretM X B hsz hr hlk (Nat.le_of_ble_eq_true rfl) (Nat.le_of_ble_eq_true rfl) (by omega) (by omega) (by rw [jB_f hQ]) (by rw [op_weight, if_neg hQ]) dc_M_weight_37
set_option maxHeartbeats 4000000 in
set_option maxRecDepth 100000 in
theorem c_M_aside (l : Launch) (u : cx_U) (sz : Nat) (ad : Nat → Nat → Nat) (S : cs_S) (sc : Nat → Nat → Int) (hI : cs_I S) (a x : Int) (a1 : -2147483648 ≤ a) (a2 : a ≤ 2147483647) (x1 : -9223372036854775808 ≤ x) (x2 : x ≤ 9223372036854775807) : cx_M l u mn_M_aside bc_M_aside 4 (some .boolean) 2 46 [.ref (ad 20 0), .int (jI (a)), .long (jL (x))] (wM u ad S sc) sz (some (.int (jI (jB (0 ≤ a ∧ a < S 0 0 0 ∧ S 14 a.toNat 0 = 0 ∧ 0 ≤ x ∧ x ≤ S 12 a.toNat 0))))) (fun w' => w' = wM u ad (op_aside S a x) sc) 0 0 := by
  refine cx_M.of (by decide +kernel) (Nat.le_of_ble_eq_true rfl) ?_
  intro p e s m args below meth c ls hsz X hr hlk hin B hl
  have X : CallFix p m c bc_M_aside 4 s args GW "CatchSharesModel" := X
  have hl : lv_has ls 4 [(0, .ref (ad 20 0)), (1, .int (jI (a))), (2, .long (jL (x)))] := hl
  have hI1 := hI.1
  have hI5 := hI.2.2.2.2.1
  refine lv_aload_n X.1 X.2.1 dc_M_aside_0 rfl (lv_at hl 0 rfl) ?_
  refine lv_iload_n X.1 X.2.1 dc_M_aside_1 rfl (lv_at hl 1 rfl) ?_
  refine cx_cVN (r := .int (jI (jB (0 ≤ a ∧ a < S 0 0 0)))) (As := [.int (jI (a))]) (rest := []) X B kc_M_isStock gm_M_97 (c_M_isStock l u ad S sc hI a (by omega) (by omega)) (fun _ _ _ h => h) (wM_20 u ad S sc) rfl rfl ⟨(Nat.le_of_ble_eq_true rfl), (Nat.le_of_ble_eq_true rfl)⟩ ⟨(Nat.le_of_ble_eq_true rfl), (Nat.le_of_ble_eq_true rfl)⟩ rfl hl.1 (Nat.le_of_ble_eq_true rfl) dc_M_aside_2 rfl ?_
  refine cx_ifeqB (tgt := 31) X dc_M_aside_5 (by decide) (fun c_1 => ?_) (fun c_1 => ?_)
  · refine cx_iconst X dc_M_aside_31 ?_
    have hQ : ¬ (0 ≤ a ∧ a < S 0 0 0 ∧ S 14 a.toNat 0 = 0 ∧ 0 ≤ x ∧ x ≤ S 12 a.toNat 0) := by (try simp only [cs_nn]); omega
    exact cx_zretM X B hsz hr hlk (Nat.le_of_ble_eq_true rfl) (Nat.le_of_ble_eq_true rfl) (by omega) (by omega) (by rw [jB_f hQ]) (by rw [op_aside, if_neg hQ]) dc_M_aside_32
  · obtain ⟨i, rfl⟩ : ∃ i : Nat, a = (i : Int) := ⟨a.toNat, by omega⟩
    have hi : (i : Int) < S 0 0 0 := by omega
    refine lv_aload_n X.1 X.2.1 dc_M_aside_8 rfl (lv_at hl 0 rfl) ?_
    refine cx_get (v := .ref (ad 24 0)) X B (wM_20 u ad S sc) rfl uw_M 4 (by decide) gf_M_20 rfl dc_M_aside_9 ?_
    refine lv_iload_n X.1 X.2.1 dc_M_aside_12 rfl (lv_at hl 1 rfl) ?_
    refine cx_zald X B (wM_24 u ad S sc) (i) (by omega) (by omega) (by decide) dc_M_aside_13 ?_
    have r_2 := hI5 i
    refine cx_if_ne (tgt := 31) X (by omega) (by omega) dc_M_aside_14 (by decide) (fun c_3 => ?_) (fun c_3 => ?_)
    · refine cx_iconst X dc_M_aside_31 ?_
      have hQ : ¬ (0 ≤ (i : Int) ∧ (i : Int) < S 0 0 0 ∧ S 14 (i : Int).toNat 0 = 0 ∧ 0 ≤ x ∧ x ≤ S 12 (i : Int).toNat 0) := by (try simp only [cs_nn]); omega
      exact cx_zretM X B hsz hr hlk (Nat.le_of_ble_eq_true rfl) (Nat.le_of_ble_eq_true rfl) (by omega) (by omega) (by rw [jB_f hQ]) (by rw [op_aside, if_neg hQ]) dc_M_aside_32
    · refine lv_lload_n X.1 X.2.1 dc_M_aside_17 rfl (lv_at hl 2 rfl) ?_
      refine cx_lconst (a := 0) X dc_M_aside_18 (by decide +kernel) ?_
      refine lv_aload_n X.1 X.2.1 dc_M_aside_19 rfl (lv_at hl 0 rfl) ?_
      refine cx_get (v := .ref (ad 21 0)) X B (wM_20 u ad S sc) rfl uw_M 1 (by decide) gf_M_7 rfl dc_M_aside_20 ?_
      refine lv_iload_n X.1 X.2.1 dc_M_aside_23 rfl (lv_at hl 1 rfl) ?_
      refine cx_lald X B (wM_21 u ad S sc) (i) (by omega) (by omega) (by decide) dc_M_aside_24 ?_
      have r_4 := hI5 i
      refine cx_cSN (r := .int (jI (jB (0 ≤ x ∧ x ≤ (S 12 i 0))))) (As := [.long (jL (x)), .long (jL (0)), .long (jL (S 12 i 0))]) (rest := []) X B kc_M_in gm_M_82 (c_M_in l u _ x 0 (S 12 i 0) (by omega) (by omega) (by omega) (by omega) (by omega) (by omega)) (fun _ _ _ h => h) ⟨(Nat.le_of_ble_eq_true rfl), (Nat.le_of_ble_eq_true rfl)⟩ ⟨(Nat.le_of_ble_eq_true rfl), (Nat.le_of_ble_eq_true rfl)⟩ rfl hl.1 (Nat.le_of_ble_eq_true rfl) dc_M_aside_25 rfl ?_
      refine cx_ifneB (tgt := 33) X dc_M_aside_28 (by decide) (fun c_5 => ?_) (fun c_5 => ?_)
      · refine lv_aload_n X.1 X.2.1 dc_M_aside_33 rfl (lv_at hl 0 rfl) ?_
        refine cx_get (v := .ref (ad 22 0)) X B (wM_20 u ad S sc) rfl uw_M 2 (by decide) gf_M_13 rfl dc_M_aside_34 ?_
        refine lv_iload_n X.1 X.2.1 dc_M_aside_37 rfl (lv_at hl 1 rfl) ?_
        refine lv_lload_n X.1 X.2.1 dc_M_aside_38 rfl (lv_at hl 2 rfl) ?_
        refine cx_last X B (wM_22 u ad S sc) (i) (by omega) (by omega) (by decide) dc_M_aside_39 (fun H locs B => ?_)
        have B : cx_B u (cx_A (wM u ad S sc) sz) (cx_up (wM u ad S sc) 22 0 (ad 22 0, .inl (u.2 1, 8, .inr (.inl (fun z_ => jL (va_up (fun z_ => S 13 z_ 0) i x z_)))))) s H locs := B
        refine cx_iconst X dc_M_aside_40 ?_
        have hQ : 0 ≤ (i : Int) ∧ (i : Int) < S 0 0 0 ∧ S 14 (i : Int).toNat 0 = 0 ∧ 0 ≤ x ∧ x ≤ S 12 (i : Int).toNat 0 := by (try simp only [cs_nn]); omega
        have hG : cx_up (wM u ad S sc) 22 0 (ad 22 0, .inl (u.2 1, 8, .inr (.inl (fun z_ => jL (va_up (fun z_ => S 13 z_ 0) i x z_))))) = wM u ad (op_aside S (i : Int) x) sc := by
          rw [op_aside, if_pos hQ]
          try simp only [cs_nn]
          funext k j
          match k with
          | 0 => simp [cx_up, wM]
          | 1 => simp [cx_up, wM]
          | 2 => simp [cx_up, wM]
          | 3 => simp [cx_up, wM]
          | 4 => simp [cx_up, wM]
          | 5 => simp [cx_up, wM]
          | 6 => simp [cx_up, wM]
          | 7 => simp [cx_up, wM]
          | 8 => simp [cx_up, wM]
          | 9 => simp [cx_up, wM]
          | 10 => simp [cx_up, wM]
          | 11 => simp [cx_up, wM]
          | 12 => simp [cx_up, wM]
          | 13 => simp [cx_up, wM]
          | 14 => simp [cx_up, wM]
          | 15 => simp [cx_up, wM]
          | 16 => simp [cx_up, wM]
          | 17 => simp [cx_up, wM]
          | 18 => simp [cx_up, wM]
          | 19 => simp [cx_up, wM]
          | 20 => by_cases hz : j = 0 <;> simp [cx_up, wM, cs_u, hz, va_upE, Int.toNat_natCast]
          | 21 => by_cases hz : j = 0 <;> simp [cx_up, wM, cs_u, hz, va_upE, Int.toNat_natCast]
          | 22 => by_cases hz : j = 0 <;> simp [cx_up, wM, cs_u, hz, va_upE, Int.toNat_natCast]
          | 23 => by_cases hz : j = 0 <;> simp [cx_up, wM, cs_u, hz, va_upE, Int.toNat_natCast]
          | 24 => by_cases hz : j = 0 <;> simp [cx_up, wM, cs_u, hz, va_upE, Int.toNat_natCast]
          | 25 => by_cases hz : j = 0 <;> simp [cx_up, wM, cs_u, hz, va_upE, Int.toNat_natCast]
          | 26 => by_cases hz : j = 0 <;> simp [cx_up, wM, cs_u, hz, va_upE, Int.toNat_natCast]
          | 27 => by_cases hz : j = 0 <;> simp [cx_up, wM, cs_u, hz, va_upE, Int.toNat_natCast]
          | 28 => by_cases hz : j = 0 <;> simp [cx_up, wM, cs_u, hz, va_upE, Int.toNat_natCast]
          | 29 => by_cases hz : j = 0 <;> simp [cx_up, wM, cs_u, hz, va_upE, Int.toNat_natCast]
          | 30 => by_cases hz : j = 0 <;> simp [cx_up, wM, cs_u, hz, va_upE, Int.toNat_natCast]
          | 31 => by_cases hz : j = 0 <;> simp [cx_up, wM, cs_u, hz, va_upE, Int.toNat_natCast]
          | 32 => by_cases hz : j = 0 <;> simp [cx_up, wM, cs_u, hz, va_upE, Int.toNat_natCast]
          | 33 => by_cases hz : j = 0 <;> simp [cx_up, wM, cs_u, hz, va_upE, Int.toNat_natCast]
          | 34 => by_cases hz : j = 0 <;> simp [cx_up, wM, cs_u, hz, va_upE, Int.toNat_natCast]
          | 35 => by_cases hz : j = 0 <;> simp [cx_up, wM, cs_u, hz, va_upE, Int.toNat_natCast]
          | 36 => by_cases hz : j = 0 <;> simp [cx_up, wM, cs_u, hz, va_upE, Int.toNat_natCast]
          | 37 => by_cases hz : j = 0 <;> simp [cx_up, wM, cs_u, hz, va_upE, Int.toNat_natCast]
          | 38 => by_cases hz : j = 0 <;> simp [cx_up, wM, cs_u, hz, va_upE, Int.toNat_natCast]
          | 39 => by_cases hz : j = 0 <;> simp [cx_up, wM, cs_u, hz, va_upE, Int.toNat_natCast]
          | 40 => by_cases hz : j = 0 <;> simp [cx_up, wM, cs_u, hz, va_upE, Int.toNat_natCast]
          | k + 41 => simp [cx_up, wM]
        exact cx_zretM X B hsz hr hlk (Nat.le_of_ble_eq_true rfl) (Nat.le_of_ble_eq_true rfl) (by omega) (by omega) (by rw [jB_t hQ]) (hG) dc_M_aside_41
      · refine cx_iconst X dc_M_aside_31 ?_
        have hQ : ¬ (0 ≤ (i : Int) ∧ (i : Int) < S 0 0 0 ∧ S 14 (i : Int).toNat 0 = 0 ∧ 0 ≤ x ∧ x ≤ S 12 (i : Int).toNat 0) := by (try simp only [cs_nn]); omega
        exact cx_zretM X B hsz hr hlk (Nat.le_of_ble_eq_true rfl) (Nat.le_of_ble_eq_true rfl) (by omega) (by omega) (by rw [jB_f hQ]) (by rw [op_aside, if_neg hQ]) dc_M_aside_32
set_option maxHeartbeats 4000000 in
set_option maxRecDepth 100000 in
theorem c_M_follows (l : Launch) (u : cx_U) (sz : Nat) (ad : Nat → Nat → Nat) (S : cs_S) (sc : Nat → Nat → Int) (hI : cs_I S) (a b : Int) (a1 : -2147483648 ≤ a) (a2 : a ≤ 2147483647) (b1 : -2147483648 ≤ b) (b2 : b ≤ 2147483647) : cx_M l u mn_M_follows bc_M_follows 3 (some .boolean) 2 46 [.ref (ad 20 0), .int (jI (a)), .int (jI (b))] (wM u ad S sc) sz (some (.int (jI (jB (0 ≤ a ∧ a < S 0 0 0 ∧ 0 ≤ b ∧ b < S 0 0 0 ∧ S 14 a.toNat 0 = 0 ∧ S 14 b.toNat 0 = 1 ∧ S 15 a.toNat 0 = -1))))) (fun w' => w' = wM u ad (op_follows S a b) sc) 0 0 := by
  refine cx_M.of (by decide +kernel) (Nat.le_of_ble_eq_true rfl) ?_
  intro p e s m args below meth c ls hsz X hr hlk hin B hl
  have X : CallFix p m c bc_M_follows 3 s args GW "CatchSharesModel" := X
  have hl : lv_has ls 3 [(0, .ref (ad 20 0)), (1, .int (jI (a))), (2, .int (jI (b)))] := hl
  have hI1 := hI.1
  have hI5 := hI.2.2.2.2.1
  refine lv_aload_n X.1 X.2.1 dc_M_follows_0 rfl (lv_at hl 0 rfl) ?_
  refine lv_iload_n X.1 X.2.1 dc_M_follows_1 rfl (lv_at hl 1 rfl) ?_
  refine cx_cVN (r := .int (jI (jB (0 ≤ a ∧ a < S 0 0 0)))) (As := [.int (jI (a))]) (rest := []) X B kc_M_isStock gm_M_97 (c_M_isStock l u ad S sc hI a (by omega) (by omega)) (fun _ _ _ h => h) (wM_20 u ad S sc) rfl rfl ⟨(Nat.le_of_ble_eq_true rfl), (Nat.le_of_ble_eq_true rfl)⟩ ⟨(Nat.le_of_ble_eq_true rfl), (Nat.le_of_ble_eq_true rfl)⟩ rfl hl.1 (Nat.le_of_ble_eq_true rfl) dc_M_follows_2 rfl ?_
  refine cx_ifeqB (tgt := 44) X dc_M_follows_5 (by decide) (fun c_1 => ?_) (fun c_1 => ?_)
  · refine cx_iconst X dc_M_follows_44 ?_
    have hQ : ¬ (0 ≤ a ∧ a < S 0 0 0 ∧ 0 ≤ b ∧ b < S 0 0 0 ∧ S 14 a.toNat 0 = 0 ∧ S 14 b.toNat 0 = 1 ∧ S 15 a.toNat 0 = -1) := by (try simp only [cs_nn]); omega
    exact cx_zretM X B hsz hr hlk (Nat.le_of_ble_eq_true rfl) (Nat.le_of_ble_eq_true rfl) (by omega) (by omega) (by rw [jB_f hQ]) (by rw [op_follows, if_neg hQ]) dc_M_follows_45
  · obtain ⟨i, rfl⟩ : ∃ i : Nat, a = (i : Int) := ⟨a.toNat, by omega⟩
    have hi : (i : Int) < S 0 0 0 := by omega
    refine lv_aload_n X.1 X.2.1 dc_M_follows_8 rfl (lv_at hl 0 rfl) ?_
    refine lv_iload_n X.1 X.2.1 dc_M_follows_9 rfl (lv_at hl 2 rfl) ?_
    refine cx_cVN (r := .int (jI (jB (0 ≤ b ∧ b < S 0 0 0)))) (As := [.int (jI (b))]) (rest := []) X B kc_M_isStock gm_M_97 (c_M_isStock l u ad S sc hI b (by omega) (by omega)) (fun _ _ _ h => h) (wM_20 u ad S sc) rfl rfl ⟨(Nat.le_of_ble_eq_true rfl), (Nat.le_of_ble_eq_true rfl)⟩ ⟨(Nat.le_of_ble_eq_true rfl), (Nat.le_of_ble_eq_true rfl)⟩ rfl hl.1 (Nat.le_of_ble_eq_true rfl) dc_M_follows_10 rfl ?_
    refine cx_ifeqB (tgt := 44) X dc_M_follows_13 (by decide) (fun c_2 => ?_) (fun c_2 => ?_)
    · refine cx_iconst X dc_M_follows_44 ?_
      have hQ : ¬ (0 ≤ (i : Int) ∧ (i : Int) < S 0 0 0 ∧ 0 ≤ b ∧ b < S 0 0 0 ∧ S 14 (i : Int).toNat 0 = 0 ∧ S 14 b.toNat 0 = 1 ∧ S 15 (i : Int).toNat 0 = -1) := by (try simp only [cs_nn]); omega
      exact cx_zretM X B hsz hr hlk (Nat.le_of_ble_eq_true rfl) (Nat.le_of_ble_eq_true rfl) (by omega) (by omega) (by rw [jB_f hQ]) (by rw [op_follows, if_neg hQ]) dc_M_follows_45
    · obtain ⟨k, rfl⟩ : ∃ k : Nat, b = (k : Int) := ⟨b.toNat, by omega⟩
      have hk : (k : Int) < S 0 0 0 := by omega
      refine lv_aload_n X.1 X.2.1 dc_M_follows_16 rfl (lv_at hl 0 rfl) ?_
      refine cx_get (v := .ref (ad 24 0)) X B (wM_20 u ad S sc) rfl uw_M 4 (by decide) gf_M_20 rfl dc_M_follows_17 ?_
      refine lv_iload_n X.1 X.2.1 dc_M_follows_20 rfl (lv_at hl 1 rfl) ?_
      refine cx_zald X B (wM_24 u ad S sc) (i) (by omega) (by omega) (by decide) dc_M_follows_21 ?_
      have r_3 := hI5 i
      refine cx_if_ne (tgt := 44) X (by omega) (by omega) dc_M_follows_22 (by decide) (fun c_4 => ?_) (fun c_4 => ?_)
      · refine cx_iconst X dc_M_follows_44 ?_
        have hQ : ¬ (0 ≤ (i : Int) ∧ (i : Int) < S 0 0 0 ∧ 0 ≤ (k : Int) ∧ (k : Int) < S 0 0 0 ∧ S 14 (i : Int).toNat 0 = 0 ∧ S 14 (k : Int).toNat 0 = 1 ∧ S 15 (i : Int).toNat 0 = -1) := by (try simp only [cs_nn]); omega
        exact cx_zretM X B hsz hr hlk (Nat.le_of_ble_eq_true rfl) (Nat.le_of_ble_eq_true rfl) (by omega) (by omega) (by rw [jB_f hQ]) (by rw [op_follows, if_neg hQ]) dc_M_follows_45
      · refine lv_aload_n X.1 X.2.1 dc_M_follows_25 rfl (lv_at hl 0 rfl) ?_
        refine cx_get (v := .ref (ad 24 0)) X B (wM_20 u ad S sc) rfl uw_M 4 (by decide) gf_M_20 rfl dc_M_follows_26 ?_
        refine lv_iload_n X.1 X.2.1 dc_M_follows_29 rfl (lv_at hl 2 rfl) ?_
        refine cx_zald X B (wM_24 u ad S sc) (k) (by omega) (by omega) (by decide) dc_M_follows_30 ?_
        have r_5 := hI5 k
        refine cx_if_eq (tgt := 44) X (by omega) (by omega) dc_M_follows_31 (by decide) (fun c_6 => ?_) (fun c_6 => ?_)
        · refine cx_iconst X dc_M_follows_44 ?_
          have hQ : ¬ (0 ≤ (i : Int) ∧ (i : Int) < S 0 0 0 ∧ 0 ≤ (k : Int) ∧ (k : Int) < S 0 0 0 ∧ S 14 (i : Int).toNat 0 = 0 ∧ S 14 (k : Int).toNat 0 = 1 ∧ S 15 (i : Int).toNat 0 = -1) := by (try simp only [cs_nn]); omega
          exact cx_zretM X B hsz hr hlk (Nat.le_of_ble_eq_true rfl) (Nat.le_of_ble_eq_true rfl) (by omega) (by omega) (by rw [jB_f hQ]) (by rw [op_follows, if_neg hQ]) dc_M_follows_45
        · refine lv_aload_n X.1 X.2.1 dc_M_follows_34 rfl (lv_at hl 0 rfl) ?_
          refine cx_get (v := .ref (ad 23 0)) X B (wM_20 u ad S sc) rfl uw_M 3 (by decide) gf_M_16 rfl dc_M_follows_35 ?_
          refine lv_iload_n X.1 X.2.1 dc_M_follows_38 rfl (lv_at hl 1 rfl) ?_
          refine cx_iald X B (wM_23 u ad S sc) (i) (by omega) (by omega) (by decide) dc_M_follows_39 ?_
          have r_7 := hI5 i
          refine cx_iconst X dc_M_follows_40 ?_
          refine cx_icmp_eq (tgt := 46) X (by omega) (by omega) (by omega) (by omega) dc_M_follows_41 (by decide) (fun c_8 => ?_) (fun c_8 => ?_)
          · refine lv_aload_n X.1 X.2.1 dc_M_follows_46 rfl (lv_at hl 0 rfl) ?_
            refine cx_get (v := .ref (ad 23 0)) X B (wM_20 u ad S sc) rfl uw_M 3 (by decide) gf_M_16 rfl dc_M_follows_47 ?_
            refine lv_iload_n X.1 X.2.1 dc_M_follows_50 rfl (lv_at hl 1 rfl) ?_
            refine lv_iload_n X.1 X.2.1 dc_M_follows_51 rfl (lv_at hl 2 rfl) ?_
            refine cx_iast X B (wM_23 u ad S sc) (i) (by omega) (by omega) (by decide) dc_M_follows_52 (fun H locs B => ?_)
            have B : cx_B u (cx_A (wM u ad S sc) sz) (cx_up (wM u ad S sc) 23 0 (ad 23 0, .inl (u.2 0, 8, .inl (fun z_ => jI (va_up (fun z_ => S 15 z_ 0) i (k : Int) z_))))) s H locs := B
            refine cx_iconst X dc_M_follows_53 ?_
            have hQ : 0 ≤ (i : Int) ∧ (i : Int) < S 0 0 0 ∧ 0 ≤ (k : Int) ∧ (k : Int) < S 0 0 0 ∧ S 14 (i : Int).toNat 0 = 0 ∧ S 14 (k : Int).toNat 0 = 1 ∧ S 15 (i : Int).toNat 0 = -1 := by (try simp only [cs_nn]); omega
            have hG : cx_up (wM u ad S sc) 23 0 (ad 23 0, .inl (u.2 0, 8, .inl (fun z_ => jI (va_up (fun z_ => S 15 z_ 0) i (k : Int) z_)))) = wM u ad (op_follows S (i : Int) (k : Int)) sc := by
              rw [op_follows, if_pos hQ]
              try simp only [cs_nn]
              funext k j
              match k with
              | 0 => simp [cx_up, wM]
              | 1 => simp [cx_up, wM]
              | 2 => simp [cx_up, wM]
              | 3 => simp [cx_up, wM]
              | 4 => simp [cx_up, wM]
              | 5 => simp [cx_up, wM]
              | 6 => simp [cx_up, wM]
              | 7 => simp [cx_up, wM]
              | 8 => simp [cx_up, wM]
              | 9 => simp [cx_up, wM]
              | 10 => simp [cx_up, wM]
              | 11 => simp [cx_up, wM]
              | 12 => simp [cx_up, wM]
              | 13 => simp [cx_up, wM]
              | 14 => simp [cx_up, wM]
              | 15 => simp [cx_up, wM]
              | 16 => simp [cx_up, wM]
              | 17 => simp [cx_up, wM]
              | 18 => simp [cx_up, wM]
              | 19 => simp [cx_up, wM]
              | 20 => by_cases hz : j = 0 <;> simp [cx_up, wM, cs_u, hz, va_upE, Int.toNat_natCast]
              | 21 => by_cases hz : j = 0 <;> simp [cx_up, wM, cs_u, hz, va_upE, Int.toNat_natCast]
              | 22 => by_cases hz : j = 0 <;> simp [cx_up, wM, cs_u, hz, va_upE, Int.toNat_natCast]
              | 23 => by_cases hz : j = 0 <;> simp [cx_up, wM, cs_u, hz, va_upE, Int.toNat_natCast]
              | 24 => by_cases hz : j = 0 <;> simp [cx_up, wM, cs_u, hz, va_upE, Int.toNat_natCast]
              | 25 => by_cases hz : j = 0 <;> simp [cx_up, wM, cs_u, hz, va_upE, Int.toNat_natCast]
              | 26 => by_cases hz : j = 0 <;> simp [cx_up, wM, cs_u, hz, va_upE, Int.toNat_natCast]
              | 27 => by_cases hz : j = 0 <;> simp [cx_up, wM, cs_u, hz, va_upE, Int.toNat_natCast]
              | 28 => by_cases hz : j = 0 <;> simp [cx_up, wM, cs_u, hz, va_upE, Int.toNat_natCast]
              | 29 => by_cases hz : j = 0 <;> simp [cx_up, wM, cs_u, hz, va_upE, Int.toNat_natCast]
              | 30 => by_cases hz : j = 0 <;> simp [cx_up, wM, cs_u, hz, va_upE, Int.toNat_natCast]
              | 31 => by_cases hz : j = 0 <;> simp [cx_up, wM, cs_u, hz, va_upE, Int.toNat_natCast]
              | 32 => by_cases hz : j = 0 <;> simp [cx_up, wM, cs_u, hz, va_upE, Int.toNat_natCast]
              | 33 => by_cases hz : j = 0 <;> simp [cx_up, wM, cs_u, hz, va_upE, Int.toNat_natCast]
              | 34 => by_cases hz : j = 0 <;> simp [cx_up, wM, cs_u, hz, va_upE, Int.toNat_natCast]
              | 35 => by_cases hz : j = 0 <;> simp [cx_up, wM, cs_u, hz, va_upE, Int.toNat_natCast]
              | 36 => by_cases hz : j = 0 <;> simp [cx_up, wM, cs_u, hz, va_upE, Int.toNat_natCast]
              | 37 => by_cases hz : j = 0 <;> simp [cx_up, wM, cs_u, hz, va_upE, Int.toNat_natCast]
              | 38 => by_cases hz : j = 0 <;> simp [cx_up, wM, cs_u, hz, va_upE, Int.toNat_natCast]
              | 39 => by_cases hz : j = 0 <;> simp [cx_up, wM, cs_u, hz, va_upE, Int.toNat_natCast]
              | 40 => by_cases hz : j = 0 <;> simp [cx_up, wM, cs_u, hz, va_upE, Int.toNat_natCast]
              | k + 41 => simp [cx_up, wM]
            exact cx_zretM X B hsz hr hlk (Nat.le_of_ble_eq_true rfl) (Nat.le_of_ble_eq_true rfl) (by omega) (by omega) (by rw [jB_t hQ]) (hG) dc_M_follows_54
          · refine cx_iconst X dc_M_follows_44 ?_
            have hQ : ¬ (0 ≤ (i : Int) ∧ (i : Int) < S 0 0 0 ∧ 0 ≤ (k : Int) ∧ (k : Int) < S 0 0 0 ∧ S 14 (i : Int).toNat 0 = 0 ∧ S 14 (k : Int).toNat 0 = 1 ∧ S 15 (i : Int).toNat 0 = -1) := by (try simp only [cs_nn]); omega
            exact cx_zretM X B hsz hr hlk (Nat.le_of_ble_eq_true rfl) (Nat.le_of_ble_eq_true rfl) (by omega) (by omega) (by rw [jB_f hQ]) (by rw [op_follows, if_neg hQ]) dc_M_follows_45
set_option maxHeartbeats 4000000 in
set_option maxRecDepth 100000 in
theorem c_M_seen (l : Launch) (u : cx_U) (sz : Nat) (ad : Nat → Nat → Nat) (S : cs_S) (sc : Nat → Nat → Int) (hI : cs_I S) (a x y : Int) (a1 : -2147483648 ≤ a) (a2 : a ≤ 2147483647) (x1 : -9223372036854775808 ≤ x) (x2 : x ≤ 9223372036854775807) (y1 : -9223372036854775808 ≤ y) (y2 : y ≤ 9223372036854775807) : cx_M l u mn_M_seen bc_M_seen 6 (some .boolean) 2 46 [.ref (ad 20 0), .int (jI (a)), .long (jL (x)), .long (jL (y))] (wM u ad S sc) sz (some (.int (jI (jB (0 ≤ a ∧ a < S 0 0 0 ∧ 0 ≤ x ∧ x ≤ 1000000 ∧ 0 ≤ y ∧ y ≤ 1000000 ∧ S 17 a.toNat 0 + x ≤ 1000000 ∧ S 18 a.toNat 0 + y ≤ 1000000))))) (fun w' => w' = wM u ad (op_seen S a x y) sc) 0 0 := by
  refine cx_M.of (by decide +kernel) (Nat.le_of_ble_eq_true rfl) ?_
  intro p e s m args below meth c ls hsz X hr hlk hin B hl
  have X : CallFix p m c bc_M_seen 6 s args GW "CatchSharesModel" := X
  have hl : lv_has ls 6 [(0, .ref (ad 20 0)), (1, .int (jI (a))), (2, .long (jL (x))), (4, .long (jL (y)))] := hl
  have hI1 := hI.1
  have hI5 := hI.2.2.2.2.1
  refine lv_aload_n X.1 X.2.1 dc_M_seen_0 rfl (lv_at hl 0 rfl) ?_
  refine lv_iload_n X.1 X.2.1 dc_M_seen_1 rfl (lv_at hl 1 rfl) ?_
  refine cx_cVN (r := .int (jI (jB (0 ≤ a ∧ a < S 0 0 0)))) (As := [.int (jI (a))]) (rest := []) X B kc_M_isStock gm_M_97 (c_M_isStock l u ad S sc hI a (by omega) (by omega)) (fun _ _ _ h => h) (wM_20 u ad S sc) rfl rfl ⟨(Nat.le_of_ble_eq_true rfl), (Nat.le_of_ble_eq_true rfl)⟩ ⟨(Nat.le_of_ble_eq_true rfl), (Nat.le_of_ble_eq_true rfl)⟩ rfl hl.1 (Nat.le_of_ble_eq_true rfl) dc_M_seen_2 rfl ?_
  refine cx_ifeqB (tgt := 31) X dc_M_seen_5 (by decide) (fun c_1 => ?_) (fun c_1 => ?_)
  · refine cx_iconst X dc_M_seen_31 ?_
    have hQ : ¬ (0 ≤ a ∧ a < S 0 0 0 ∧ 0 ≤ x ∧ x ≤ 1000000 ∧ 0 ≤ y ∧ y ≤ 1000000 ∧ S 17 a.toNat 0 + x ≤ 1000000 ∧ S 18 a.toNat 0 + y ≤ 1000000) := by (try simp only [cs_nn]); omega
    exact cx_zretM X B hsz hr hlk (Nat.le_of_ble_eq_true rfl) (Nat.le_of_ble_eq_true rfl) (by omega) (by omega) (by rw [jB_f hQ]) (by rw [op_seen, if_neg hQ]) dc_M_seen_32
  · obtain ⟨i, rfl⟩ : ∃ i : Nat, a = (i : Int) := ⟨a.toNat, by omega⟩
    have hi : (i : Int) < S 0 0 0 := by omega
    refine lv_lload_n X.1 X.2.1 dc_M_seen_8 rfl (lv_at hl 2 rfl) ?_
    refine cx_lconst (a := 0) X dc_M_seen_9 (by decide +kernel) ?_
    refine cx_ldc2 (a := 1000000) X gk_M_103 (by decide +kernel) dc_M_seen_10 ?_
    refine cx_cSN (r := .int (jI (jB (0 ≤ x ∧ x ≤ 1000000)))) (As := [.long (jL (x)), .long (jL (0)), .long (jL (1000000))]) (rest := []) X B kc_M_in gm_M_82 (c_M_in l u _ x 0 1000000 (by omega) (by omega) (by omega) (by omega) (by omega) (by omega)) (fun _ _ _ h => h) ⟨(Nat.le_of_ble_eq_true rfl), (Nat.le_of_ble_eq_true rfl)⟩ ⟨(Nat.le_of_ble_eq_true rfl), (Nat.le_of_ble_eq_true rfl)⟩ rfl hl.1 (Nat.le_of_ble_eq_true rfl) dc_M_seen_13 rfl ?_
    refine cx_ifeqB (tgt := 31) X dc_M_seen_16 (by decide) (fun c_2 => ?_) (fun c_2 => ?_)
    · refine cx_iconst X dc_M_seen_31 ?_
      have hQ : ¬ (0 ≤ (i : Int) ∧ (i : Int) < S 0 0 0 ∧ 0 ≤ x ∧ x ≤ 1000000 ∧ 0 ≤ y ∧ y ≤ 1000000 ∧ S 17 (i : Int).toNat 0 + x ≤ 1000000 ∧ S 18 (i : Int).toNat 0 + y ≤ 1000000) := by (try simp only [cs_nn]); omega
      exact cx_zretM X B hsz hr hlk (Nat.le_of_ble_eq_true rfl) (Nat.le_of_ble_eq_true rfl) (by omega) (by omega) (by rw [jB_f hQ]) (by rw [op_seen, if_neg hQ]) dc_M_seen_32
    · refine lv_lload X.1 X.2.1 dc_M_seen_19 (lv_at hl 3 rfl) ?_
      refine cx_lconst (a := 0) X dc_M_seen_21 (by decide +kernel) ?_
      refine cx_ldc2 (a := 1000000) X gk_M_103 (by decide +kernel) dc_M_seen_22 ?_
      refine cx_cSN (r := .int (jI (jB (0 ≤ y ∧ y ≤ 1000000)))) (As := [.long (jL (y)), .long (jL (0)), .long (jL (1000000))]) (rest := []) X B kc_M_in gm_M_82 (c_M_in l u _ y 0 1000000 (by omega) (by omega) (by omega) (by omega) (by omega) (by omega)) (fun _ _ _ h => h) ⟨(Nat.le_of_ble_eq_true rfl), (Nat.le_of_ble_eq_true rfl)⟩ ⟨(Nat.le_of_ble_eq_true rfl), (Nat.le_of_ble_eq_true rfl)⟩ rfl hl.1 (Nat.le_of_ble_eq_true rfl) dc_M_seen_25 rfl ?_
      refine cx_ifneB (tgt := 33) X dc_M_seen_28 (by decide) (fun c_3 => ?_) (fun c_3 => ?_)
      · refine lv_aload_n X.1 X.2.1 dc_M_seen_33 rfl (lv_at hl 0 rfl) ?_
        refine cx_get (v := .ref (ad 27 0)) X B (wM_20 u ad S sc) rfl uw_M 7 (by decide) gf_M_30 rfl dc_M_seen_34 ?_
        refine lv_iload_n X.1 X.2.1 dc_M_seen_37 rfl (lv_at hl 1 rfl) ?_
        refine cx_lald X B (wM_27 u ad S sc) (i) (by omega) (by omega) (by decide) dc_M_seen_38 ?_
        have r_4 := hI5 i
        refine lv_lload_n X.1 X.2.1 dc_M_seen_39 rfl (lv_at hl 2 rfl) ?_
        refine cx_ladd X dc_M_seen_40 ?_
        refine cx_ldc2 (a := 1000000) X gk_M_103 (by decide +kernel) dc_M_seen_41 ?_
        refine cx_lcmp_gt (tgt := 64) X (by omega) (by omega) (by omega) (by omega) dc_M_seen_44 dc_M_seen_45 (by decide) (fun c_5 => ?_) (fun c_5 => ?_)
        · refine cx_iconst X dc_M_seen_64 ?_
          have hQ : ¬ (0 ≤ (i : Int) ∧ (i : Int) < S 0 0 0 ∧ 0 ≤ x ∧ x ≤ 1000000 ∧ 0 ≤ y ∧ y ≤ 1000000 ∧ S 17 (i : Int).toNat 0 + x ≤ 1000000 ∧ S 18 (i : Int).toNat 0 + y ≤ 1000000) := by (try simp only [cs_nn]); omega
          exact cx_zretM X B hsz hr hlk (Nat.le_of_ble_eq_true rfl) (Nat.le_of_ble_eq_true rfl) (by omega) (by omega) (by rw [jB_f hQ]) (by rw [op_seen, if_neg hQ]) dc_M_seen_65
        · refine lv_aload_n X.1 X.2.1 dc_M_seen_48 rfl (lv_at hl 0 rfl) ?_
          refine cx_get (v := .ref (ad 28 0)) X B (wM_20 u ad S sc) rfl uw_M 8 (by decide) gf_M_33 rfl dc_M_seen_49 ?_
          refine lv_iload_n X.1 X.2.1 dc_M_seen_52 rfl (lv_at hl 1 rfl) ?_
          refine cx_lald X B (wM_28 u ad S sc) (i) (by omega) (by omega) (by decide) dc_M_seen_53 ?_
          have r_6 := hI5 i
          refine lv_lload X.1 X.2.1 dc_M_seen_54 (lv_at hl 3 rfl) ?_
          refine cx_ladd X dc_M_seen_56 ?_
          refine cx_ldc2 (a := 1000000) X gk_M_103 (by decide +kernel) dc_M_seen_57 ?_
          refine cx_lcmp_le (tgt := 66) X (by omega) (by omega) (by omega) (by omega) dc_M_seen_60 dc_M_seen_61 (by decide) (fun c_7 => ?_) (fun c_7 => ?_)
          · refine lv_aload_n X.1 X.2.1 dc_M_seen_66 rfl (lv_at hl 0 rfl) ?_
            refine cx_get (v := .ref (ad 27 0)) X B (wM_20 u ad S sc) rfl uw_M 7 (by decide) gf_M_30 rfl dc_M_seen_67 ?_
            refine lv_iload_n X.1 X.2.1 dc_M_seen_70 rfl (lv_at hl 1 rfl) ?_
            refine lv_aload_n X.1 X.2.1 dc_M_seen_71 rfl (lv_at hl 0 rfl) ?_
            refine cx_get (v := .ref (ad 27 0)) X B (wM_20 u ad S sc) rfl uw_M 7 (by decide) gf_M_30 rfl dc_M_seen_72 ?_
            refine lv_iload_n X.1 X.2.1 dc_M_seen_75 rfl (lv_at hl 1 rfl) ?_
            refine cx_lald X B (wM_27 u ad S sc) (i) (by omega) (by omega) (by decide) dc_M_seen_76 ?_
            have r_8 := hI5 i
            refine lv_lload_n X.1 X.2.1 dc_M_seen_77 rfl (lv_at hl 2 rfl) ?_
            refine cx_ladd X dc_M_seen_78 ?_
            refine cx_last X B (wM_27 u ad S sc) (i) (by omega) (by omega) (by decide) dc_M_seen_79 (fun H locs B => ?_)
            have B : cx_B u (cx_A (wM u ad S sc) sz) (cx_up (wM u ad S sc) 27 0 (ad 27 0, .inl (u.2 1, 8, .inr (.inl (fun z_ => jL (va_up (fun z_ => S 17 z_ 0) i ((S 17 i 0) + x) z_)))))) s H locs := B
            refine lv_aload_n X.1 X.2.1 dc_M_seen_80 rfl (lv_at hl 0 rfl) ?_
            refine cx_get (v := .ref (ad 28 0)) X B ((cx_up_n _ _ (fun q => absurd q.1 (by decide))).trans (wM_20 u ad S sc)) rfl uw_M 8 (by decide) gf_M_33 rfl dc_M_seen_81 ?_
            refine lv_iload_n X.1 X.2.1 dc_M_seen_84 rfl (lv_at hl 1 rfl) ?_
            refine lv_aload_n X.1 X.2.1 dc_M_seen_85 rfl (lv_at hl 0 rfl) ?_
            refine cx_get (v := .ref (ad 28 0)) X B ((cx_up_n _ _ (fun q => absurd q.1 (by decide))).trans (wM_20 u ad S sc)) rfl uw_M 8 (by decide) gf_M_33 rfl dc_M_seen_86 ?_
            refine lv_iload_n X.1 X.2.1 dc_M_seen_89 rfl (lv_at hl 1 rfl) ?_
            refine cx_lald X B ((cx_up_n _ _ (fun q => absurd q.1 (by decide))).trans (wM_28 u ad S sc)) (i) (by omega) (by omega) (by decide) dc_M_seen_90 ?_
            have r_9 := hI5 i
            refine lv_lload X.1 X.2.1 dc_M_seen_91 (lv_at hl 3 rfl) ?_
            refine cx_ladd X dc_M_seen_93 ?_
            refine cx_last X B ((cx_up_n _ _ (fun q => absurd q.1 (by decide))).trans (wM_28 u ad S sc)) (i) (by omega) (by omega) (by decide) dc_M_seen_94 (fun H locs B => ?_)
            have B : cx_B u (cx_A (wM u ad S sc) sz) (cx_up (cx_up (wM u ad S sc) 27 0 (ad 27 0, .inl (u.2 1, 8, .inr (.inl (fun z_ => jL (va_up (fun z_ => S 17 z_ 0) i ((S 17 i 0) + x) z_)))))) 28 0 (ad 28 0, .inl (u.2 1, 8, .inr (.inl (fun z_ => jL (va_up (fun z_ => S 18 z_ 0) i ((S 18 i 0) + y) z_)))))) s H locs := B
            refine cx_iconst X dc_M_seen_95 ?_
            have hQ : 0 ≤ (i : Int) ∧ (i : Int) < S 0 0 0 ∧ 0 ≤ x ∧ x ≤ 1000000 ∧ 0 ≤ y ∧ y ≤ 1000000 ∧ S 17 (i : Int).toNat 0 + x ≤ 1000000 ∧ S 18 (i : Int).toNat 0 + y ≤ 1000000 := by (try simp only [cs_nn]); omega
            have hG : cx_up (cx_up (wM u ad S sc) 27 0 (ad 27 0, .inl (u.2 1, 8, .inr (.inl (fun z_ => jL (va_up (fun z_ => S 17 z_ 0) i ((S 17 i 0) + x) z_)))))) 28 0 (ad 28 0, .inl (u.2 1, 8, .inr (.inl (fun z_ => jL (va_up (fun z_ => S 18 z_ 0) i ((S 18 i 0) + y) z_))))) = wM u ad (op_seen S (i : Int) x y) sc := by
              rw [op_seen, if_pos hQ]
              try simp only [cs_nn]
              funext k j
              match k with
              | 0 => simp [cx_up, wM]
              | 1 => simp [cx_up, wM]
              | 2 => simp [cx_up, wM]
              | 3 => simp [cx_up, wM]
              | 4 => simp [cx_up, wM]
              | 5 => simp [cx_up, wM]
              | 6 => simp [cx_up, wM]
              | 7 => simp [cx_up, wM]
              | 8 => simp [cx_up, wM]
              | 9 => simp [cx_up, wM]
              | 10 => simp [cx_up, wM]
              | 11 => simp [cx_up, wM]
              | 12 => simp [cx_up, wM]
              | 13 => simp [cx_up, wM]
              | 14 => simp [cx_up, wM]
              | 15 => simp [cx_up, wM]
              | 16 => simp [cx_up, wM]
              | 17 => simp [cx_up, wM]
              | 18 => simp [cx_up, wM]
              | 19 => simp [cx_up, wM]
              | 20 => by_cases hz : j = 0 <;> simp [cx_up, wM, cs_u, hz, va_upE, Int.toNat_natCast]
              | 21 => by_cases hz : j = 0 <;> simp [cx_up, wM, cs_u, hz, va_upE, Int.toNat_natCast]
              | 22 => by_cases hz : j = 0 <;> simp [cx_up, wM, cs_u, hz, va_upE, Int.toNat_natCast]
              | 23 => by_cases hz : j = 0 <;> simp [cx_up, wM, cs_u, hz, va_upE, Int.toNat_natCast]
              | 24 => by_cases hz : j = 0 <;> simp [cx_up, wM, cs_u, hz, va_upE, Int.toNat_natCast]
              | 25 => by_cases hz : j = 0 <;> simp [cx_up, wM, cs_u, hz, va_upE, Int.toNat_natCast]
              | 26 => by_cases hz : j = 0 <;> simp [cx_up, wM, cs_u, hz, va_upE, Int.toNat_natCast]
              | 27 => by_cases hz : j = 0 <;> simp [cx_up, wM, cs_u, hz, va_upE, Int.toNat_natCast]
              | 28 => by_cases hz : j = 0 <;> simp [cx_up, wM, cs_u, hz, va_upE, Int.toNat_natCast]
              | 29 => by_cases hz : j = 0 <;> simp [cx_up, wM, cs_u, hz, va_upE, Int.toNat_natCast]
              | 30 => by_cases hz : j = 0 <;> simp [cx_up, wM, cs_u, hz, va_upE, Int.toNat_natCast]
              | 31 => by_cases hz : j = 0 <;> simp [cx_up, wM, cs_u, hz, va_upE, Int.toNat_natCast]
              | 32 => by_cases hz : j = 0 <;> simp [cx_up, wM, cs_u, hz, va_upE, Int.toNat_natCast]
              | 33 => by_cases hz : j = 0 <;> simp [cx_up, wM, cs_u, hz, va_upE, Int.toNat_natCast]
              | 34 => by_cases hz : j = 0 <;> simp [cx_up, wM, cs_u, hz, va_upE, Int.toNat_natCast]
              | 35 => by_cases hz : j = 0 <;> simp [cx_up, wM, cs_u, hz, va_upE, Int.toNat_natCast]
              | 36 => by_cases hz : j = 0 <;> simp [cx_up, wM, cs_u, hz, va_upE, Int.toNat_natCast]
              | 37 => by_cases hz : j = 0 <;> simp [cx_up, wM, cs_u, hz, va_upE, Int.toNat_natCast]
              | 38 => by_cases hz : j = 0 <;> simp [cx_up, wM, cs_u, hz, va_upE, Int.toNat_natCast]
              | 39 => by_cases hz : j = 0 <;> simp [cx_up, wM, cs_u, hz, va_upE, Int.toNat_natCast]
              | 40 => by_cases hz : j = 0 <;> simp [cx_up, wM, cs_u, hz, va_upE, Int.toNat_natCast]
              | k + 41 => simp [cx_up, wM]
            exact cx_zretM X B hsz hr hlk (Nat.le_of_ble_eq_true rfl) (Nat.le_of_ble_eq_true rfl) (by omega) (by omega) (by rw [jB_t hQ]) (hG) dc_M_seen_96
          · refine cx_iconst X dc_M_seen_64 ?_
            have hQ : ¬ (0 ≤ (i : Int) ∧ (i : Int) < S 0 0 0 ∧ 0 ≤ x ∧ x ≤ 1000000 ∧ 0 ≤ y ∧ y ≤ 1000000 ∧ S 17 (i : Int).toNat 0 + x ≤ 1000000 ∧ S 18 (i : Int).toNat 0 + y ≤ 1000000) := by (try simp only [cs_nn]); omega
            exact cx_zretM X B hsz hr hlk (Nat.le_of_ble_eq_true rfl) (Nat.le_of_ble_eq_true rfl) (by omega) (by omega) (by rw [jB_f hQ]) (by rw [op_seen, if_neg hQ]) dc_M_seen_65
      · refine cx_iconst X dc_M_seen_31 ?_
        have hQ : ¬ (0 ≤ (i : Int) ∧ (i : Int) < S 0 0 0 ∧ 0 ≤ x ∧ x ≤ 1000000 ∧ 0 ≤ y ∧ y ≤ 1000000 ∧ S 17 (i : Int).toNat 0 + x ≤ 1000000 ∧ S 18 (i : Int).toNat 0 + y ≤ 1000000) := by (try simp only [cs_nn]); omega
        exact cx_zretM X B hsz hr hlk (Nat.le_of_ble_eq_true rfl) (Nat.le_of_ble_eq_true rfl) (by omega) (by omega) (by rw [jB_f hQ]) (by rw [op_seen, if_neg hQ]) dc_M_seen_32
