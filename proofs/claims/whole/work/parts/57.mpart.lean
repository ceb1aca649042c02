set_option maxHeartbeats 4000000 in
set_option maxRecDepth 100000 in
theorem c_M_part (l : Launch) (u : cx_U) (sz : Nat) (ad : Nat → Nat → Nat) (S : cs_S) (sc : Nat → Nat → Int) (hI : cs_I S) (hY : cs_Y S) (hF : cs_F S) (hJ : ∀ i : Nat, (i : Int) < S 0 0 0 → S 14 i 0 = 0 → 1 ≤ cs_sum (S 20 i) 12 → cs_I (op_out S i) ∧ ∀ k : Nat, S 15 i 0 = (k : Int) → (k : Int) < S 0 0 0 → k ≠ i → ∀ n, n ≤ 12 → cs_I (op_co (op_out S i) i k n)) (a : Int) (a1 : -2147483648 ≤ a) (a2 : a ≤ 2147483647) : cx_M l u mn_M_part bc_M_part 15 (some .int) 4 100 [.ref (ad 20 0), .int (jI (a))] (wM u ad S sc) sz (some (.int (jI (cs_partQ S a)))) (fun w' => ∃ sc', w' = wM u ad (op_part S a) sc') 0 0 := by
  refine cx_M.of (by decide +kernel) (Nat.le_of_ble_eq_true rfl) ?_
  intro p e s m args below meth c ls hsz X hr hlk hin B hl
  have X : CallFix p m c bc_M_part 15 s args GW "CatchSharesModel" := X
  have hl : lv_has ls 15 [(0, .ref (ad 20 0)), (1, .int (jI (a)))] := hl
  have hI1 := hI.1
  have hI5 := hI.2.2.2.2.1
  refine lv_aload_n X.1 X.2.1 dc_M_part_0 rfl (lv_at hl 0 rfl) ?_
  refine lv_iload_n X.1 X.2.1 dc_M_part_1 rfl (lv_at hl 1 rfl) ?_
  refine cx_cVN (r := .int (jI (jB (0 ≤ a ∧ a < S 0 0 0)))) (As := [.int (jI (a))]) (rest := []) X B kc_M_isStock gm_M_97 (c_M_isStock l u ad S sc hI a (by omega) (by omega)) (fun _ _ _ h => h) (wM_20 u ad S sc) rfl rfl ⟨(Nat.le_of_ble_eq_true rfl), (Nat.le_of_ble_eq_true rfl)⟩ ⟨(Nat.le_of_ble_eq_true rfl), (Nat.le_of_ble_eq_true rfl)⟩ rfl hl.1 (Nat.le_of_ble_eq_true rfl) dc_M_part_2 rfl ?_
  refine cx_ifeqB (tgt := 17) X dc_M_part_5 (by decide) (fun c_1 => ?_) (fun c_1 => ?_)
  · refine cx_iconst X dc_M_part_17 ?_
    have hQ : ¬ (0 ≤ a ∧ a < S 0 0 0 ∧ S 14 a.toNat 0 = 0 ∧ 1 ≤ cs_sum (S 20 a.toNat) 12) := by (try simp only [cs_nn]); omega
    exact cx_iretM X B hsz hr hlk (Nat.le_of_ble_eq_true rfl) (Nat.le_of_ble_eq_true rfl) (by rw [cs_partQ, if_neg hQ]) (⟨_, by rw [op_part, if_neg hQ]⟩) dc_M_part_18
  · obtain ⟨i, rfl⟩ : ∃ i : Nat, a = (i : Int) := ⟨a.toNat, by omega⟩
    have hi : (i : Int) < S 0 0 0 := by omega
    refine lv_aload_n X.1 X.2.1 dc_M_part_8 rfl (lv_at hl 0 rfl) ?_
    refine cx_get (v := .ref (ad 24 0)) X B (wM_20 u ad S sc) rfl uw_M 4 (by decide) gf_M_20 rfl dc_M_part_9 ?_
    refine lv_iload_n X.1 X.2.1 dc_M_part_12 rfl (lv_at hl 1 rfl) ?_
    refine cx_zald X B (wM_24 u ad S sc) (i) (by omega) (by omega) (by decide) dc_M_part_13 ?_
    have r_2 := hI5 i
    refine cx_if_eq (tgt := 19) X (by omega) (by omega) dc_M_part_14 (by decide) (fun c_3 => ?_) (fun c_3 => ?_)
    · refine lv_aload_n X.1 X.2.1 dc_M_part_19 rfl (lv_at hl 0 rfl) ?_
      refine lv_iload_n X.1 X.2.1 dc_M_part_20 rfl (lv_at hl 1 rfl) ?_
      refine cx_cVN (r := .long (jL (cs_sum (S 20 i) 12))) (As := [.int (jI ((i : Int)))]) (rest := []) X B kc_M_allWeights gm_M_105 (c_M_allWeights l u ad S sc hI hY i hi) (fun _ _ _ h => h) (wM_20 u ad S sc) rfl rfl ⟨(Nat.le_of_ble_eq_true rfl), (Nat.le_of_ble_eq_true rfl)⟩ ⟨(Nat.le_of_ble_eq_true rfl), (Nat.le_of_ble_eq_true rfl)⟩ rfl hl.1 (Nat.le_of_ble_eq_true rfl) dc_M_part_21 rfl ?_
      have r_4 := cs_ws_b hI i
      refine lv_lstore_n (lv' := [(2, .long (jL (cs_sum (S 20 i) 12))), (0, .ref (ad 20 0)), (1, .int (jI ((i : Int))))]) X.1 X.2.1 dc_M_part_24 rfl hl (by decide) rfl (fun ls hl => ?_)
      refine lv_lload_n X.1 X.2.1 dc_M_part_25 rfl (lv_at hl 0 rfl) ?_
      refine cx_lconst (a := 0) X dc_M_part_26 (by decide +kernel) ?_
      refine cx_lcmp_ne (tgt := 33) X (by omega) (by omega) (by omega) (by omega) dc_M_part_27 dc_M_part_28 (by decide) (fun c_5 => ?_) (fun c_5 => ?_)
      · refine lv_aload_n X.1 X.2.1 dc_M_part_33 rfl (lv_at hl 1 rfl) ?_
        refine cx_get (v := .ref (ad 21 0)) X B (wM_20 u ad S sc) rfl uw_M 1 (by decide) gf_M_7 rfl dc_M_part_34 ?_
        refine lv_iload_n X.1 X.2.1 dc_M_part_37 rfl (lv_at hl 2 rfl) ?_
        refine cx_lald X B (wM_21 u ad S sc) (i) (by omega) (by omega) (by decide) dc_M_part_38 ?_
        have r_6 := hI5 i
        refine lv_aload_n X.1 X.2.1 dc_M_part_39 rfl (lv_at hl 1 rfl) ?_
        refine cx_get (v := .ref (ad 22 0)) X B (wM_20 u ad S sc) rfl uw_M 2 (by decide) gf_M_13 rfl dc_M_part_40 ?_
        refine lv_iload_n X.1 X.2.1 dc_M_part_43 rfl (lv_at hl 2 rfl) ?_
        refine cx_lald X B (wM_22 u ad S sc) (i) (by omega) (by omega) (by decide) dc_M_part_44 ?_
        have r_7 := hI5 i
        refine cx_lsub X dc_M_part_45 ?_
        refine lv_lstore (lv' := [(4, .long (jL ((S 12 i 0) - (S 13 i 0)))), (2, .long (jL (cs_sum (S 20 i) 12))), (0, .ref (ad 20 0)), (1, .int (jI ((i : Int))))]) X.1 X.2.1 dc_M_part_46 hl (by decide) rfl (fun ls hl => ?_)
        refine lv_lload X.1 X.2.1 dc_M_part_48 (lv_at hl 0 rfl) ?_
        refine lv_lstore (lv' := [(6, .long (jL ((S 12 i 0) - (S 13 i 0)))), (4, .long (jL ((S 12 i 0) - (S 13 i 0)))), (2, .long (jL (cs_sum (S 20 i) 12))), (0, .ref (ad 20 0)), (1, .int (jI ((i : Int))))]) X.1 X.2.1 dc_M_part_50 hl (by decide) rfl (fun ls hl => ?_)
        refine cx_iconst X dc_M_part_52 ?_
        refine lv_istore (lv' := [(8, .int (jI (0))), (6, .long (jL ((S 12 i 0) - (S 13 i 0)))), (4, .long (jL ((S 12 i 0) - (S 13 i 0)))), (2, .long (jL (cs_sum (S 20 i) 12))), (0, .ref (ad 20 0)), (1, .int (jI ((i : Int))))]) X.1 X.2.1 dc_M_part_53 hl (by decide) rfl (fun ls hl => ?_)
        have htot : 1 ≤ cs_sum (S 20 i) 12 := by omega
        have hw : ∀ k, 0 ≤ S 20 i k ∧ S 20 i k ≤ 1000000 := fun k => by have := hI.2.2.2.2.2.1 i k; omega
        have hj := hJ i hi (by omega) htot
        have lp_8 : ∀ (n_9 h : Nat) (ls : Array Slot) (H : Heap) (locs : List Loc) (T : cs_S) (sc1 : Nat → Nat → Int) (hT : ∀ f x y, ¬ (f = 21 ∧ x = i) → T f x y = S f x y) (hA : ∀ j, j < h → T 21 i j = cs_qu (S 20 i) (S 12 i 0 - S 13 i 0) (cs_sum (S 20 i) 12) j ∧ sc1 0 j = cs_re (S 20 i) (S 12 i 0 - S 13 i 0) (cs_sum (S 20 i) 12) j) (hZ : ∀ j : Nat, S 1 0 0 ≤ (j : Int) → T 21 i j = 0), (h : Int) ≤ S 1 0 0 → S 1 0 0 - (h : Int) < (n_9 : Int) → cx_B u (cx_A (wM u ad S sc) sz) (wM u ad T sc1) s H locs → lv_has ls 15 [(0, .ref (ad 20 0)), (1, .int (jI ((i : Int)))), (2, .long (jL (cs_sum (S 20 i) 12))), (4, .long (jL (S 12 i 0 - S 13 i 0))), (6, .long (jL (S 12 i 0 - S 13 i 0 - cs_sum (cs_qu (S 20 i) (S 12 i 0 - S 13 i 0) (cs_sum (S 20 i) 12)) h))), (8, .int (jI ((h : Int))))] → W p l e (cx_R 4 100 0 0) s m args below meth c H locs 0 0 (MQ below (cx_Q u (wM u ad S sc) sz (some (.int (jI (cs_partQ S (i : Int))))) (fun w' => ∃ sc', w' = wM u ad (op_part S (i : Int)) sc')) args s 0 0 (cx_A (wM u ad S sc) sz)) (F0 m 55 ls []) := by
          intro n_9
          induction n_9 with
          | zero => intro h ls H locs T sc1 hT hA hZ hi_11 hn_12; exfalso; omega
          | succ n_9 ih_10 =>
            intro h ls H locs T sc1 hT hA hZ hi_11 hn_12 B hl
            have hT1 := hT 1 0 0 (fun q => absurd q.1 (by decide))
            have hph := cs_pm (wh := (S 12 i 0 - S 13 i 0)) (t := (cs_sum (S 20 i) 12)) (by omega) (by omega) (hw h).1 (hw h).2 (by omega)
            refine lv_iload X.1 X.2.1 dc_M_part_55 (lv_at hl 5 rfl) ?_
            refine lv_aload_n X.1 X.2.1 dc_M_part_57 rfl (lv_at hl 0 rfl) ?_
            refine cx_get (v := .int (jI (T 1 0 0))) X B (wM_20 u ad T sc1) rfl uw_M 9 (by decide) gf_M_86 rfl dc_M_part_58 ?_
            refine cx_icmp_ge (tgt := 123) X (by omega) (by omega) (by omega) (by omega) dc_M_part_61 (by decide) (fun c_13 => ?_) (fun c_13 => ?_)
            · obtain ⟨n, hn⟩ : ∃ n : Nat, S 1 0 0 = (n : Int) := ⟨(S 1 0 0).toNat, by omega⟩
              have hhn : h = n := by omega
              subst hhn
              have hwz : ∀ j, h ≤ j → S 20 i j = 0 := fun j hj => (hY i j (by omega)).1
              have hspb := cs_spare_b (wt := S 20 i) (wh := (S 12 i 0 - S 13 i 0)) (n := h) (by omega) htot hwz
              have hreb : ∀ j, 0 ≤ cs_re (S 20 i) (S 12 i 0 - S 13 i 0) (cs_sum (S 20 i) 12) j ∧ cs_re (S 20 i) (S 12 i 0 - S 13 i 0) (cs_sum (S 20 i) 12) j ≤ 12000000 := fun j => by
                have q := cs_pm (wh := (S 12 i 0 - S 13 i 0)) (t := (cs_sum (S 20 i) 12)) (by omega) (by omega) (hw j).1 (hw j).2 (by omega)
                unfold cs_re; omega
              have hsp : S 12 i 0 - S 13 i 0 - cs_sum (cs_qu (S 20 i) (S 12 i 0 - S 13 i 0) (cs_sum (S 20 i) 12)) h = cs_spare (S 20 i) (S 12 i 0 - S 13 i 0) (cs_sum (S 20 i) 12) := by
                have q := cs_sum_z (f := cs_qu (S 20 i) (S 12 i 0 - S 13 i 0) (cs_sum (S 20 i) 12)) (n := h) (k := 12 - h) (fun j hj => by unfold cs_qu; rw [hwz j hj]; simp)
                rw [show h + (12 - h) = 12 by omega] at q
                unfold cs_spare; rw [q]
              have hn1 : 1 ≤ h := by
                rcases (show h = 0 ∨ 1 ≤ h by omega) with q | q
                · exfalso
                  have q1 := cs_sum_z (f := S 20 i) (n := 0) (k := 12) (fun j hj => hwz j (by omega))
                  have q2 : cs_sum (S 20 i) 0 = 0 := rfl
                  rw [Nat.zero_add] at q1
                  omega
                · exact q
              rw [hsp] at hl
              clear hph
              have lp_14 : ∀ (n_15 t : Nat) (ls : Array Slot) (H : Heap) (locs : List Loc) (T3 : cs_S) (sc3 : Nat → Nat → Int) (pk : Nat → Prop) (hT3 : ∀ f x y, ¬ (f = 21 ∧ x = i) → T3 f x y = S f x y) (hZ3 : ∀ j : Nat, S 1 0 0 ≤ (j : Int) → T3 21 i j = 0) (b1 : ∀ j, j < h → (pk j → T3 21 i j = cs_qu (S 20 i) (S 12 i 0 - S 13 i 0) (cs_sum (S 20 i) 12) j + 1 ∧ sc3 0 j = -1) ∧ (¬ pk j → T3 21 i j = cs_qu (S 20 i) (S 12 i 0 - S 13 i 0) (cs_sum (S 20 i) 12) j ∧ sc3 0 j = cs_re (S 20 i) (S 12 i 0 - S 13 i 0) (cs_sum (S 20 i) 12) j)) (b2 : ∀ j k, j < h → k < h → pk j → (cs_re (S 20 i) (S 12 i 0 - S 13 i 0) (cs_sum (S 20 i) 12) j < cs_re (S 20 i) (S 12 i 0 - S 13 i 0) (cs_sum (S 20 i) 12) k ∨ (cs_re (S 20 i) (S 12 i 0 - S 13 i 0) (cs_sum (S 20 i) 12) k = cs_re (S 20 i) (S 12 i 0 - S 13 i 0) (cs_sum (S 20 i) 12) j ∧ k < j)) → pk k) (b3 : cs_sum (fun j => jB (pk j)) h = (t : Int)), (t : Int) ≤ cs_spare (S 20 i) (S 12 i 0 - S 13 i 0) (cs_sum (S 20 i) 12) → cs_spare (S 20 i) (S 12 i 0 - S 13 i 0) (cs_sum (S 20 i) 12) - (t : Int) < (n_15 : Int) → cx_B u (cx_A (wM u ad S sc) sz) (wM u ad T3 sc3) s H locs → lv_has ls 15 [(0, .ref (ad 20 0)), (1, .int (jI ((i : Int)))), (6, .long (jL (cs_spare (S 20 i) (S 12 i 0 - S 13 i 0) (cs_sum (S 20 i) 12) - (t : Int))))] → W p l e (cx_R 4 100 0 0) s m args below meth c H locs 0 0 (MQ below (cx_Q u (wM u ad S sc) sz (some (.int (jI (cs_partQ S (i : Int))))) (fun w' => ∃ sc', w' = wM u ad (op_part S (i : Int)) sc')) args s 0 0 (cx_A (wM u ad S sc) sz)) (F0 m 123 ls []) := by
                intro n_15
                induction n_15 with
                | zero => intro t ls H locs T3 sc3 pk hT3 hZ3 b1 b2 b3 hi_17 hn_18; exfalso; omega
                | succ n_15 ih_16 =>
                  intro t ls H locs T3 sc3 pk hT3 hZ3 b1 b2 b3 hi_17 hn_18 B hl
                  have hT1 := hT3 1 0 0 (fun q => absurd q.1 (by decide))
                  have hrb : ∀ j, j < h → -1 ≤ sc3 0 j ∧ sc3 0 j ≤ 12000000 := fun j hj => by
                    have q0 := hreb j
                    by_cases hp : pk j
                    · rw [((b1 j hj).1 hp).2]; omega
                    · rw [((b1 j hj).2 hp).2]; omega
                  refine lv_lload X.1 X.2.1 dc_M_part_123 (lv_at hl 2 rfl) ?_
                  refine cx_lconst (a := 0) X dc_M_part_125 (by decide +kernel) ?_
                  refine cx_lcmp_le (tgt := 213) X (by omega) (by omega) (by omega) (by omega) dc_M_part_126 dc_M_part_127 (by decide) (fun c_19 => ?_) (fun c_19 => ?_)
                  · refine cx_iconst X dc_M_part_213 ?_
                    refine lv_istore (lv' := [(8, .int (jI (0))), (0, .ref (ad 20 0)), (1, .int (jI ((i : Int)))), (6, .long (jL (cs_spare (S 20 i) (S 12 i 0 - S 13 i 0) (cs_sum (S 20 i) 12) - (t : Int))))]) X.1 X.2.1 dc_M_part_214 hl (by decide) rfl (fun ls hl => ?_)
                    refine cx_iconst X dc_M_part_216 ?_
                    refine lv_istore (lv' := [(9, .int (jI (0))), (8, .int (jI (0))), (0, .ref (ad 20 0)), (1, .int (jI ((i : Int)))), (6, .long (jL (cs_spare (S 20 i) (S 12 i 0 - S 13 i 0) (cs_sum (S 20 i) 12) - (t : Int))))]) X.1 X.2.1 dc_M_part_217 hl (by decide) rfl (fun ls hl => ?_)
                    have htE : (t : Int) = cs_spare (S 20 i) (S 12 i 0 - S 13 i 0) (cs_sum (S 20 i) 12) := by omega
                    have hs0 : ∀ j, T3 21 i j = (if j < 12 then cs_s0 (S 20 i) (S 12 i 0 - S 13 i 0) (cs_sum (S 20 i) 12) j else 0) := fun j => by
                      rcases Nat.lt_or_ge j h with q | q
                      · rw [if_pos (by omega)]
                        have q1 : pk j ↔ cs_rk (S 20 i) (S 12 i 0 - S 13 i 0) (cs_sum (S 20 i) 12) j h < cs_spare (S 20 i) (S 12 i 0 - S 13 i 0) (cs_sum (S 20 i) 12) := cs_pk_rk b2 (b3.trans htE) q
                        have q2 := cs_rk_12 (wt := S 20 i) (wh := (S 12 i 0 - S 13 i 0)) (tot := (cs_sum (S 20 i) 12)) (n := h) (by omega) htot hwz q
                        unfold cs_s0
                        rw [q2]
                        by_cases hp : pk j
                        · rw [((b1 j q).1 hp).1, if_pos (q1.mp hp)]
                        · rw [((b1 j q).2 hp).1, if_neg (fun z => hp (q1.mpr z))]; omega
                      · rw [hZ3 j (by omega)]
                        split
                        · exact (cs_s0_z (n := h) (by omega) htot hwz q).symm
                        · rfl
                    have hOz : ∀ j, h ≤ j → (op_out S i) 21 i j = 0 := fun j hj => by
                      by_cases q : j < 12
                      · simp [op_out, cs_u, cs_ss, q]; exact cs_s0_z (n := h) (by omega) htot hwz hj
                      · simp [op_out, cs_u, cs_ss, q]; exact (hY i j (by omega)).2
                    have hE : wM u ad T3 sc3 = wM u ad (op_out S i) sc3 := wM_c u ad sc3 (fun f x y hf => by
                      unfold op_out
                      simp only [cs_u, cs_ss]
                      rw [if_neg (fun q => hf q.1)]
                      by_cases q : f = 21 ∧ x = i
                      · obtain ⟨rfl, rfl⟩ := q
                        by_cases q2 : y < 12
                        · rw [if_pos ⟨rfl, rfl, q2⟩, hs0 y, if_pos q2]
                        · rw [if_neg (fun z => q2 z.2.2), hs0 y, if_neg q2]; exact ((hY x y (by omega)).2).symm
                      · rw [if_neg (fun z => q ⟨z.1, z.2.1⟩)]; exact hT3 f x y q)
                    have B : cx_B u (cx_A (wM u ad S sc) sz) (wM u ad (op_out S i) sc3) s H locs := by rw [← hE]; exact B
                    rcases hF i hi (by omega) with hf | ⟨k, hf, hk, hki⟩
                    · have eca : op_ca S i = op_out S i := by rw [op_ca, if_pos hf]
                      have lp_20 : ∀ (n_21 g : Nat) (ls : Array Slot) (H : Heap) (locs : List Loc) , (g : Int) ≤ S 1 0 0 → S 1 0 0 - (g : Int) < (n_21 : Int) → cx_B u (cx_A (wM u ad S sc) sz) (wM u ad (op_out S i) sc3) s H locs → lv_has ls 15 [(0, .ref (ad 20 0)), (1, .int (jI ((i : Int)))), (8, .int (jI (cs_cnt ((op_out S i) 21 i) g))), (9, .int (jI ((g : Int))))] → W p l e (cx_R 4 100 0 0) s m args below meth c H locs 0 0 (MQ below (cx_Q u (wM u ad S sc) sz (some (.int (jI (cs_partQ S (i : Int))))) (fun w' => ∃ sc', w' = wM u ad (op_part S (i : Int)) sc')) args s 0 0 (cx_A (wM u ad S sc) sz)) (F0 m 219 ls []) := by
                        intro n_21
                        induction n_21 with
                        | zero => intro g ls H locs  hi_23 hn_24; exfalso; omega
                        | succ n_21 ih_22 =>
                          intro g ls H locs  hi_23 hn_24 B hl
                          refine lv_iload X.1 X.2.1 dc_M_part_219 (lv_at hl 3 rfl) ?_
                          refine lv_aload_n X.1 X.2.1 dc_M_part_221 rfl (lv_at hl 0 rfl) ?_
                          refine cx_get (v := .int (jI (S 1 0 0))) X B (wM_20 u ad (op_out S i) sc3) rfl uw_M 9 (by decide) gf_M_86 rfl dc_M_part_222 ?_
                          refine cx_icmp_ge (tgt := 345) X (by omega) (by omega) (by omega) (by omega) dc_M_part_225 (by decide) (fun c_25 => ?_) (fun c_25 => ?_)
                          · refine lv_aload_n X.1 X.2.1 dc_M_part_345 rfl (lv_at hl 0 rfl) ?_
                            refine cx_get (v := .ref (ad 24 0)) X B (wM_20 u ad (op_out S i) sc3) rfl uw_M 4 (by decide) gf_M_20 rfl dc_M_part_346 ?_
                            refine lv_iload_n X.1 X.2.1 dc_M_part_349 rfl (lv_at hl 1 rfl) ?_
                            refine cx_iconst X dc_M_part_350 ?_
                            refine cx_zast X B (wM_24 u ad (op_out S i) sc3) (i) (by omega) (by omega) (by decide) (by omega) (by omega) dc_M_part_351 (fun H locs B => ?_)
                            have B : cx_B u (cx_A (wM u ad S sc) sz) (cx_up (wM u ad (op_out S i) sc3) 24 0 (ad 24 0, .inl (u.2 2, 8, .inl (fun z_ => jI (va_up (fun z_ => (op_out S i) 14 z_ 0) i 1 z_))))) s H locs := B
                            refine lv_iload X.1 X.2.1 dc_M_part_352 (lv_at hl 2 rfl) ?_
                            have hgh : g = h := by omega
                            subst hgh
                            have hQ : 0 ≤ (i : Int) ∧ (i : Int) < S 0 0 0 ∧ S 14 (i : Int).toNat 0 = 0 ∧ 1 ≤ cs_sum (S 20 (i : Int).toNat) 12 := by (try simp only [cs_nn]); omega
                            have eR : cs_cnt ((op_out S i) 21 i) g = cs_cnt ((op_ca S i) 21 i) 12 := by
                              rw [eca]
                              have q := cs_sum_z (f := fun z => if 0 < (op_out S i) 21 i z then (1 : Int) else 0) (n := g) (k := 12 - g) (fun j hj2 => by show (if 0 < (op_out S i) 21 i j then (1 : Int) else 0) = 0; rw [hOz j hj2]; rfl)
                              rw [show g + (12 - g) = 12 by omega] at q
                              exact q.symm
                            have hG : wM u ad (cs_u (op_out S i) 14 i 0 1) sc3 = wM u ad (op_part S (i : Int)) sc3 := wM_c u ad sc3 (fun f x y hf2 => by
                              rw [op_part, if_pos hQ, cs_nn, eca]
                              simp only [cs_u]
                              by_cases q : f = 14 ∧ x = i ∧ y = 0
                              · rw [if_pos q]; (try rw [if_pos q]); rw [if_neg (by omega)]
                              · rw [if_neg q]; (try rw [if_neg q])
                                by_cases q2 : f = 19 ∧ x = i ∧ y = 0
                                · rw [if_pos q2]
                                  obtain ⟨rfl, rfl, rfl⟩ := q2
                                  simp [op_out, cs_u, cs_ss]
                                · rw [if_neg q2])
                            have hG2 : cx_up (wM u ad (op_out S i) sc3) 24 0 (ad 24 0, .inl (u.2 2, 8, .inl (fun z_ => jI (va_up (fun z_ => (op_out S i) 14 z_ 0) i 1 z_)))) = wM u ad (op_part S (i : Int)) sc3 := by rw [← hG]; exact wM_f14 u ad (op_out S i) sc3 1
                            exact cx_iretM X B hsz hr hlk (Nat.le_of_ble_eq_true rfl) (Nat.le_of_ble_eq_true rfl) (by rw [cs_partQ, if_pos hQ, cs_nn, ← eR]) (⟨_, hG2⟩) dc_M_part_354
                          · refine cx_bipush X dc_M_part_228 (by decide +kernel) ?_
                            refine lv_iload_n X.1 X.2.1 dc_M_part_230 rfl (lv_at hl 1 rfl) ?_
                            refine cx_imul X dc_M_part_231 ?_
                            refine lv_iload X.1 X.2.1 dc_M_part_232 (lv_at hl 3 rfl) ?_
                            refine cx_iadd X dc_M_part_234 ?_
                            refine lv_istore (lv' := [(10, .int (jI ((12 * (i : Int)) + (g : Int)))), (0, .ref (ad 20 0)), (1, .int (jI ((i : Int)))), (8, .int (jI (cs_cnt ((op_out S i) 21 i) g))), (9, .int (jI ((g : Int))))]) X.1 X.2.1 dc_M_part_235 hl (by decide) rfl (fun ls hl => ?_)
                            refine lv_aload_n X.1 X.2.1 dc_M_part_237 rfl (lv_at hl 1 rfl) ?_
                            refine cx_get (v := .ref (ad 23 0)) X B (wM_20 u ad (op_out S i) sc3) rfl uw_M 3 (by decide) gf_M_16 rfl dc_M_part_238 ?_
                            refine lv_iload_n X.1 X.2.1 dc_M_part_241 rfl (lv_at hl 2 rfl) ?_
                            refine cx_iald (f := fun z_ => S 15 z_ 0) X B (wM_23 u ad (op_out S i) sc3) (i) (by omega) (by omega) (by decide) dc_M_part_242 ?_
                            have r_26 := hI5 i
                            rw [hf]
                            refine cx_iconst X dc_M_part_243 ?_
                            refine cx_icmp_eq (tgt := 316) X (by omega) (by omega) (by omega) (by omega) dc_M_part_244 (by decide) (fun c_27 => ?_) (fun c_27 => by exfalso; omega)
                            refine lv_aload_n X.1 X.2.1 dc_M_part_316 rfl (lv_at hl 1 rfl) ?_
                            refine cx_get (v := .ref (ad 32 0)) X B (wM_20 u ad (op_out S i) sc3) rfl uw_M 13 (by decide) gf_M_45 rfl dc_M_part_317 ?_
                            refine lv_iload X.1 X.2.1 dc_M_part_320 (lv_at hl 0 rfl) ?_
                            refine cx_lald X B (wM_32 u ad (op_out S i) sc3) ((12 * i) + g) (by omega) (by omega) (by decide) dc_M_part_322 ?_
                            rw [show ((12 * i) + g) / 12 = i by omega, show ((12 * i) + g) % 12 = g by omega]
                            have r_28 := hj.1.2.2.2.2.2.1 i g
                            refine cx_lconst (a := 0) X dc_M_part_323 (by decide +kernel) ?_
                            refine cx_lcmp_le (tgt := 335) X (by omega) (by omega) (by omega) (by omega) dc_M_part_324 dc_M_part_325 (by decide) (fun c_29 => ?_) (fun c_29 => ?_)
                            · refine lv_iload X.1 X.2.1 dc_M_part_335 (lv_at hl 3 rfl) ?_
                              refine lv_istore (lv' := [(8, .int (jI (cs_cnt ((op_out S i) 21 i) g))), (10, .int (jI ((12 * (i : Int)) + (g : Int)))), (0, .ref (ad 20 0)), (1, .int (jI ((i : Int)))), (9, .int (jI ((g : Int))))]) X.1 X.2.1 dc_M_part_337 hl (by decide) rfl (fun ls hl => ?_)
                              refine lv_iinc (v := jI ((g : Int) + 1)) (lv' := [(9, .int (jI ((g : Int) + 1))), (8, .int (jI (cs_cnt ((op_out S i) 21 i) g))), (10, .int (jI ((12 * (i : Int)) + (g : Int)))), (0, .ref (ad 20 0)), (1, .int (jI ((i : Int))))]) X.1 X.2.1 dc_M_part_339 hl (k := 4) rfl (jI_add _ _) (by decide) rfl (fun ls hl => ?_)
                              refine lv_goto (tgt := 219) X.1 X.2.1 dc_M_part_342 (by decide) ?_
                              have qq : cs_cnt ((op_out S i) 21 i) (g + 1) = cs_cnt ((op_out S i) 21 i) g := by rw [cs_cnt_s, if_neg (by omega)]; omega
                              exact ih_22 (g + 1) ls _ _  (by omega) (by omega) B (by rw [qq]; exact lv_sub hl [3, 4, 1, 0] rfl)
                            · refine lv_iload X.1 X.2.1 dc_M_part_328 (lv_at hl 3 rfl) ?_
                              refine cx_iconst X dc_M_part_330 ?_
                              refine cx_iadd X dc_M_part_331 ?_
                              refine lv_goto (tgt := 337) X.1 X.2.1 dc_M_part_332 (by decide) ?_
                              refine lv_istore (lv' := [(8, .int (jI ((cs_cnt ((op_out S i) 21 i) g) + 1))), (10, .int (jI ((12 * (i : Int)) + (g : Int)))), (0, .ref (ad 20 0)), (1, .int (jI ((i : Int)))), (9, .int (jI ((g : Int))))]) X.1 X.2.1 dc_M_part_337 hl (by decide) rfl (fun ls hl => ?_)
                              refine lv_iinc (v := jI ((g : Int) + 1)) (lv' := [(9, .int (jI ((g : Int) + 1))), (8, .int (jI ((cs_cnt ((op_out S i) 21 i) g) + 1))), (10, .int (jI ((12 * (i : Int)) + (g : Int)))), (0, .ref (ad 20 0)), (1, .int (jI ((i : Int))))]) X.1 X.2.1 dc_M_part_339 hl (k := 4) rfl (jI_add _ _) (by decide) rfl (fun ls hl => ?_)
                              refine lv_goto (tgt := 219) X.1 X.2.1 dc_M_part_342 (by decide) ?_
                              have qq : cs_cnt ((op_out S i) 21 i) (g + 1) = (cs_cnt ((op_out S i) 21 i) g) + 1 := by rw [cs_cnt_s, if_pos (by omega)]
                              exact ih_22 (g + 1) ls _ _  (by omega) (by omega) B (by rw [qq]; exact lv_sub hl [3, 4, 1, 0] rfl)
                      exact lp_20 ((S 1 0 0 : Int).toNat + 1) 0 ls _ _  (by omega) (by omega) B (by  exact lv_sub hl [2, 3, 1, 0] rfl)
                    · have eca : op_ca S i = op_co (op_out S i) i k h := by rw [op_ca, if_neg (by omega), hf, hn]; rfl
                      have B : cx_B u (cx_A (wM u ad S sc) sz) (wM u ad (cs_u (op_co (op_out S i) i k 0) 19 i 0 (S 19 i 0 + cs_sum (fun j => cs_cs (op_out S i) i k j - (op_out S i) 21 i j) 0)) sc3) s H locs := by
                        have e0 : wM u ad (cs_u (op_co (op_out S i) i k 0) 19 i 0 (S 19 i 0 + cs_sum (fun j => cs_cs (op_out S i) i k j - (op_out S i) 21 i j) 0)) sc3 = wM u ad (op_out S i) sc3 := wM_c u ad sc3 (fun f x y hf => by
                          rw [op_co_0]
                          simp only [cs_u, cs_sum, Int.add_zero]
                          by_cases q : f = 19 ∧ x = i ∧ y = 0
                          · rw [if_pos q]; obtain ⟨rfl, rfl, rfl⟩ := q; rfl
                          · rw [if_neg q])
                        rw [e0]; exact B
                      have lp_30 : ∀ (n_31 g : Nat) (ls : Array Slot) (H : Heap) (locs : List Loc) , (g : Int) ≤ S 1 0 0 → S 1 0 0 - (g : Int) < (n_31 : Int) → cx_B u (cx_A (wM u ad S sc) sz) (wM u ad (cs_u (op_co (op_out S i) i k g) 19 i 0 (S 19 i 0 + cs_sum (fun j => cs_cs (op_out S i) i k j - (op_out S i) 21 i j) g)) sc3) s H locs → lv_has ls 15 [(0, .ref (ad 20 0)), (1, .int (jI ((i : Int)))), (8, .int (jI (cs_cnt (cs_cs (op_out S i) i k) g))), (9, .int (jI ((g : Int))))] → W p l e (cx_R 4 100 0 0) s m args below meth c H locs 0 0 (MQ below (cx_Q u (wM u ad S sc) sz (some (.int (jI (cs_partQ S (i : Int))))) (fun w' => ∃ sc', w' = wM u ad (op_part S (i : Int)) sc')) args s 0 0 (cx_A (wM u ad S sc) sz)) (F0 m 219 ls []) := by
                        intro n_31
                        induction n_31 with
                        | zero => intro g ls H locs  hi_33 hn_34; exfalso; omega
                        | succ n_31 ih_32 =>
                          intro g ls H locs  hi_33 hn_34 B hl
                          refine lv_iload X.1 X.2.1 dc_M_part_219 (lv_at hl 3 rfl) ?_
                          refine lv_aload_n X.1 X.2.1 dc_M_part_221 rfl (lv_at hl 0 rfl) ?_
                          refine cx_get (v := .int (jI (S 1 0 0))) X B (wM_20 u ad (cs_u (op_co (op_out S i) i k g) 19 i 0 (S 19 i 0 + cs_sum (fun j => cs_cs (op_out S i) i k j - (op_out S i) 21 i j) g)) sc3) rfl uw_M 9 (by decide) gf_M_86 rfl dc_M_part_222 ?_
                          refine cx_icmp_ge (tgt := 345) X (by omega) (by omega) (by omega) (by omega) dc_M_part_225 (by decide) (fun c_35 => ?_) (fun c_35 => ?_)
                          · refine lv_aload_n X.1 X.2.1 dc_M_part_345 rfl (lv_at hl 0 rfl) ?_
                            refine cx_get (v := .ref (ad 24 0)) X B (wM_20 u ad (cs_u (op_co (op_out S i) i k g) 19 i 0 (S 19 i 0 + cs_sum (fun j => cs_cs (op_out S i) i k j - (op_out S i) 21 i j) g)) sc3) rfl uw_M 4 (by decide) gf_M_20 rfl dc_M_part_346 ?_
                            refine lv_iload_n X.1 X.2.1 dc_M_part_349 rfl (lv_at hl 1 rfl) ?_
                            refine cx_iconst X dc_M_part_350 ?_
                            refine cx_zast X B (wM_24 u ad (cs_u (op_co (op_out S i) i k g) 19 i 0 (S 19 i 0 + cs_sum (fun j => cs_cs (op_out S i) i k j - (op_out S i) 21 i j) g)) sc3) (i) (by omega) (by omega) (by decide) (by omega) (by omega) dc_M_part_351 (fun H locs B => ?_)
                            have B : cx_B u (cx_A (wM u ad S sc) sz) (cx_up (wM u ad (cs_u (op_co (op_out S i) i k g) 19 i 0 (S 19 i 0 + cs_sum (fun j => cs_cs (op_out S i) i k j - (op_out S i) 21 i j) g)) sc3) 24 0 (ad 24 0, .inl (u.2 2, 8, .inl (fun z_ => jI (va_up (fun z_ => (cs_u (op_co (op_out S i) i k g) 19 i 0 (S 19 i 0 + cs_sum (fun j => cs_cs (op_out S i) i k j - (op_out S i) 21 i j) g)) 14 z_ 0) i 1 z_))))) s H locs := B
                            refine lv_iload X.1 X.2.1 dc_M_part_352 (lv_at hl 2 rfl) ?_
                            have hgh : g = h := by omega
                            subst hgh
                            have hQ : 0 ≤ (i : Int) ∧ (i : Int) < S 0 0 0 ∧ S 14 (i : Int).toNat 0 = 0 ∧ 1 ≤ cs_sum (S 20 (i : Int).toNat) 12 := by (try simp only [cs_nn]); omega
                            have eR : cs_cnt (cs_cs (op_out S i) i k) g = cs_cnt ((op_ca S i) 21 i) 12 := by
                              rw [eca]
                              have q := cs_sum_z (f := fun z => if 0 < (op_co (op_out S i) i k g) 21 i z then (1 : Int) else 0) (n := g) (k := 12 - g) (fun j hj2 => by
                                have q1 : (op_co (op_out S i) i k g) 21 i j = (op_out S i) 21 i j := by simp [op_co, cs_u, cs_ss, show ¬ j < g by omega]
                                show (if 0 < (op_co (op_out S i) i k g) 21 i j then (1 : Int) else 0) = 0; rw [q1, hOz j hj2]; rfl)
                              rw [show g + (12 - g) = 12 by omega] at q
                              refine Eq.trans ?_ q.symm
                              exact cs_sum_c (fun z hz => by
                                have q1 : (op_co (op_out S i) i k g) 21 i z = cs_cs (op_out S i) i k z := by simp [op_co, cs_u, cs_ss, hz]
                                show (if 0 < cs_cs (op_out S i) i k z then (1 : Int) else 0) = (if 0 < (op_co (op_out S i) i k g) 21 i z then (1 : Int) else 0)
                                rw [q1])
                            have hG : wM u ad (cs_u (cs_u (op_co (op_out S i) i k g) 19 i 0 (S 19 i 0 + cs_sum (fun j => cs_cs (op_out S i) i k j - (op_out S i) 21 i j) g)) 14 i 0 1) sc3 = wM u ad (op_part S (i : Int)) sc3 := wM_c u ad sc3 (fun f x y hf2 => by
                              rw [op_part, if_pos hQ, cs_nn, eca]
                              simp only [cs_u]
                              by_cases q : f = 14 ∧ x = i ∧ y = 0
                              · rw [if_pos q]; (try rw [if_pos q]); rw [if_neg (by omega)]
                              · rw [if_neg q]; (try rw [if_neg q])
                                by_cases q2 : f = 19 ∧ x = i ∧ y = 0
                                · rw [if_pos q2]; (try rw [if_pos q2])
                                  have w1 : (op_co (op_out S i) i k g) 22 i 0 = S 12 i 0 - S 13 i 0 + cs_sum (fun j => cs_cs (op_out S i) i k j - (op_out S i) 21 i j) g := by simp [op_co, op_out, cs_u]
                                  rw [w1]; omega
                                · rw [if_neg q2]; (try rw [if_neg q2]))
                            have hG2 : cx_up (wM u ad (cs_u (op_co (op_out S i) i k g) 19 i 0 (S 19 i 0 + cs_sum (fun j => cs_cs (op_out S i) i k j - (op_out S i) 21 i j) g)) sc3) 24 0 (ad 24 0, .inl (u.2 2, 8, .inl (fun z_ => jI (va_up (fun z_ => (cs_u (op_co (op_out S i) i k g) 19 i 0 (S 19 i 0 + cs_sum (fun j => cs_cs (op_out S i) i k j - (op_out S i) 21 i j) g)) 14 z_ 0) i 1 z_)))) = wM u ad (op_part S (i : Int)) sc3 := by rw [← hG]; exact wM_f14 u ad (cs_u (op_co (op_out S i) i k g) 19 i 0 (S 19 i 0 + cs_sum (fun j => cs_cs (op_out S i) i k j - (op_out S i) 21 i j) g)) sc3 1
                            exact cx_iretM X B hsz hr hlk (Nat.le_of_ble_eq_true rfl) (Nat.le_of_ble_eq_true rfl) (by rw [cs_partQ, if_pos hQ, cs_nn, ← eR]) (⟨_, hG2⟩) dc_M_part_354
                          · refine cx_bipush X dc_M_part_228 (by decide +kernel) ?_
                            refine lv_iload_n X.1 X.2.1 dc_M_part_230 rfl (lv_at hl 1 rfl) ?_
                            refine cx_imul X dc_M_part_231 ?_
                            refine lv_iload X.1 X.2.1 dc_M_part_232 (lv_at hl 3 rfl) ?_
                            refine cx_iadd X dc_M_part_234 ?_
                            refine lv_istore (lv' := [(10, .int (jI ((12 * (i : Int)) + (g : Int)))), (0, .ref (ad 20 0)), (1, .int (jI ((i : Int)))), (8, .int (jI (cs_cnt (cs_cs (op_out S i) i k) g))), (9, .int (jI ((g : Int))))]) X.1 X.2.1 dc_M_part_235 hl (by decide) rfl (fun ls hl => ?_)
                            refine lv_aload_n X.1 X.2.1 dc_M_part_237 rfl (lv_at hl 1 rfl) ?_
                            refine cx_get (v := .ref (ad 23 0)) X B (wM_20 u ad (cs_u (op_co (op_out S i) i k g) 19 i 0 (S 19 i 0 + cs_sum (fun j => cs_cs (op_out S i) i k j - (op_out S i) 21 i j) g)) sc3) rfl uw_M 3 (by decide) gf_M_16 rfl dc_M_part_238 ?_
                            refine lv_iload_n X.1 X.2.1 dc_M_part_241 rfl (lv_at hl 2 rfl) ?_
                            refine cx_iald (f := fun z_ => S 15 z_ 0) X B (wM_23 u ad (cs_u (op_co (op_out S i) i k g) 19 i 0 (S 19 i 0 + cs_sum (fun j => cs_cs (op_out S i) i k j - (op_out S i) 21 i j) g)) sc3) (i) (by omega) (by omega) (by decide) dc_M_part_242 ?_
                            have r_36 := hI5 i
                            rw [hf]
                            refine cx_iconst X dc_M_part_243 ?_
                            refine cx_icmp_eq (tgt := 316) X (by omega) (by omega) (by omega) (by omega) dc_M_part_244 (by decide) (fun c_37 => by exfalso; omega) (fun c_37 => ?_)
                            refine lv_aload_n X.1 X.2.1 dc_M_part_247 rfl (lv_at hl 1 rfl) ?_
                            refine cx_get (v := .ref (ad 32 0)) X B (wM_20 u ad (cs_u (op_co (op_out S i) i k g) 19 i 0 (S 19 i 0 + cs_sum (fun j => cs_cs (op_out S i) i k j - (op_out S i) 21 i j) g)) sc3) rfl uw_M 13 (by decide) gf_M_45 rfl dc_M_part_248 ?_
                            refine lv_iload X.1 X.2.1 dc_M_part_251 (lv_at hl 0 rfl) ?_
                            refine cx_lald X B (wM_32 u ad (cs_u (op_co (op_out S i) i k g) 19 i 0 (S 19 i 0 + cs_sum (fun j => cs_cs (op_out S i) i k j - (op_out S i) 21 i j) g)) sc3) ((12 * i) + g) (by omega) (by omega) (by decide) dc_M_part_253 ?_
                            rw [show ((12 * i) + g) / 12 = i by omega, show ((12 * i) + g) % 12 = g by omega]
                            have e21 : (cs_u (op_co (op_out S i) i k g) 19 i 0 (S 19 i 0 + cs_sum (fun j => cs_cs (op_out S i) i k j - (op_out S i) 21 i j) g)) 21 i g = (op_out S i) 21 i g := by simp [op_co, cs_u, cs_ss]
                            rw [e21]
                            have hsb := hj.1.2.2.2.2.2.1 i g
                            refine lv_lstore (lv' := [(11, .long (jL ((op_out S i) 21 i g))), (10, .int (jI ((12 * (i : Int)) + (g : Int)))), (0, .ref (ad 20 0)), (1, .int (jI ((i : Int)))), (8, .int (jI (cs_cnt (cs_cs (op_out S i) i k) g))), (9, .int (jI ((g : Int))))]) X.1 X.2.1 dc_M_part_254 hl (by decide) rfl (fun ls hl => ?_)
                            refine lv_lload X.1 X.2.1 dc_M_part_256 (lv_at hl 0 rfl) ?_
                            refine lv_aload_n X.1 X.2.1 dc_M_part_258 rfl (lv_at hl 2 rfl) ?_
                            refine lv_aload_n X.1 X.2.1 dc_M_part_259 rfl (lv_at hl 2 rfl) ?_
                            refine cx_get (v := .ref (ad 23 0)) X B (wM_20 u ad (cs_u (op_co (op_out S i) i k g) 19 i 0 (S 19 i 0 + cs_sum (fun j => cs_cs (op_out S i) i k j - (op_out S i) 21 i j) g)) sc3) rfl uw_M 3 (by decide) gf_M_16 rfl dc_M_part_260 ?_
                            refine lv_iload_n X.1 X.2.1 dc_M_part_263 rfl (lv_at hl 3 rfl) ?_
                            refine cx_iald (f := fun z_ => S 15 z_ 0) X B (wM_23 u ad (cs_u (op_co (op_out S i) i k g) 19 i 0 (S 19 i 0 + cs_sum (fun j => cs_cs (op_out S i) i k j - (op_out S i) 21 i j) g)) sc3) (i) (by omega) (by omega) (by decide) dc_M_part_264 ?_
                            have r_38 := hI5 i
                            rw [hf]
                            refine lv_iload X.1 X.2.1 dc_M_part_265 (lv_at hl 5 rfl) ?_
                            refine cx_cVN (r := .long (jL (cs_carry (cs_u (op_co (op_out S i) i k g) 19 i 0 (S 19 i 0 + cs_sum (fun j => cs_cs (op_out S i) i k j - (op_out S i) 21 i j) g)) k g))) (As := [.int (jI ((k : Int))), .int (jI ((g : Int)))]) (rest := [.long (jL ((op_out S i) 21 i g))]) X B kc_M_carriedOf gm_M_111 (c_M_carriedOf l u ad (cs_u (op_co (op_out S i) i k g) 19 i 0 (S 19 i 0 + cs_sum (fun j => cs_cs (op_out S i) i k j - (op_out S i) 21 i j) g)) sc3 (hj.2 k hf hk hki g (by omega)) k g hk (by omega)) (fun _ _ _ h => h) (wM_20 u ad (cs_u (op_co (op_out S i) i k g) 19 i 0 (S 19 i 0 + cs_sum (fun j => cs_cs (op_out S i) i k j - (op_out S i) 21 i j) g)) sc3) rfl rfl ⟨(Nat.le_of_ble_eq_true rfl), (Nat.le_of_ble_eq_true rfl)⟩ ⟨(Nat.le_of_ble_eq_true rfl), (Nat.le_of_ble_eq_true rfl)⟩ rfl hl.1 (Nat.le_of_ble_eq_true rfl) dc_M_part_267 rfl ?_
                            have ec : cs_carry (cs_u (op_co (op_out S i) i k g) 19 i 0 (S 19 i 0 + cs_sum (fun j => cs_cs (op_out S i) i k j - (op_out S i) 21 i j) g)) k g = cs_carry (op_out S i) k g := cs_carry_c rfl rfl rfl rfl rfl rfl rfl (by simp [op_co, cs_u, cs_ss, hki])
                            rw [ec]
                            have hcb := cs_carry_b hj.1 k g
                            refine cx_ladd X dc_M_part_270 ?_
                            refine lv_lstore (lv' := [(13, .long (jL (((op_out S i) 21 i g) + (cs_carry (op_out S i) k g)))), (11, .long (jL ((op_out S i) 21 i g))), (10, .int (jI ((12 * (i : Int)) + (g : Int)))), (0, .ref (ad 20 0)), (1, .int (jI ((i : Int)))), (8, .int (jI (cs_cnt (cs_cs (op_out S i) i k) g))), (9, .int (jI ((g : Int))))]) X.1 X.2.1 dc_M_part_271 hl (by decide) rfl (fun ls hl => ?_)
                            refine lv_aload_n X.1 X.2.1 dc_M_part_273 rfl (lv_at hl 3 rfl) ?_
                            refine cx_get (v := .ref (ad 32 0)) X B (wM_20 u ad (cs_u (op_co (op_out S i) i k g) 19 i 0 (S 19 i 0 + cs_sum (fun j => cs_cs (op_out S i) i k j - (op_out S i) 21 i j) g)) sc3) rfl uw_M 13 (by decide) gf_M_45 rfl dc_M_part_274 ?_
                            refine lv_iload X.1 X.2.1 dc_M_part_277 (lv_at hl 2 rfl) ?_
                            refine lv_lload X.1 X.2.1 dc_M_part_279 (lv_at hl 0 rfl) ?_
                            refine cx_lconst (a := 0) X dc_M_part_281 (by decide +kernel) ?_
                            refine cx_lcmp_ge (tgt := 290) X (by omega) (by omega) (by omega) (by omega) dc_M_part_282 dc_M_part_283 (by decide) (fun c_39 => ?_) (fun c_39 => ?_)
                            · refine lv_lload X.1 X.2.1 dc_M_part_290 (lv_at hl 0 rfl) ?_
                              rw [show (((op_out S i) 21 i g) + (cs_carry (op_out S i) k g) : Int) = cs_cs (op_out S i) i k g by unfold cs_cs cs_mx; rw [if_neg (by omega)]]
                              refine cx_last X B (wM_32 u ad (cs_u (op_co (op_out S i) i k g) 19 i 0 (S 19 i 0 + cs_sum (fun j => cs_cs (op_out S i) i k j - (op_out S i) 21 i j) g)) sc3) ((12 * i) + g) (by omega) (by omega) (by decide) dc_M_part_292 (fun H locs B => ?_)
                              have B : cx_B u (cx_A (wM u ad S sc) sz) (cx_up (wM u ad (cs_u (op_co (op_out S i) i k g) 19 i 0 (S 19 i 0 + cs_sum (fun j => cs_cs (op_out S i) i k j - (op_out S i) 21 i j) g)) sc3) 32 0 (ad 32 0, .inl (u.2 1, 96, .inr (.inl (fun z_ => jL (va_up (fun z_ => (cs_u (op_co (op_out S i) i k g) 19 i 0 (S 19 i 0 + cs_sum (fun j => cs_cs (op_out S i) i k j - (op_out S i) 21 i j) g)) 21 (z_ / 12) (z_ % 12)) ((12 * i) + g) (cs_cs (op_out S i) i k g) z_)))))) s H locs := B
                              obtain ⟨T5, hT5⟩ : ∃ z, z = cs_u (cs_u (op_co (op_out S i) i k g) 19 i 0 (S 19 i 0 + cs_sum (fun j => cs_cs (op_out S i) i k j - (op_out S i) 21 i j) g)) 21 i g (cs_cs (op_out S i) i k g) := ⟨_, rfl⟩
                              have B : cx_B u (cx_A (wM u ad S sc) sz) (wM u ad T5 sc3) s H locs := by rw [hT5, ← wM_f21 u ad _ sc3 (by omega)]; exact B
                              refine lv_aload_n X.1 X.2.1 dc_M_part_293 rfl (lv_at hl 3 rfl) ?_
                              refine cx_get (v := .ref (ad 26 0)) X B (wM_20 u ad T5 sc3) rfl uw_M 6 (by decide) gf_M_27 rfl dc_M_part_294 ?_
                              refine lv_iload_n X.1 X.2.1 dc_M_part_297 rfl (lv_at hl 4 rfl) ?_
                              refine lv_aload_n X.1 X.2.1 dc_M_part_298 rfl (lv_at hl 3 rfl) ?_
                              refine cx_get (v := .ref (ad 26 0)) X B (wM_20 u ad T5 sc3) rfl uw_M 6 (by decide) gf_M_27 rfl dc_M_part_299 ?_
                              refine lv_iload_n X.1 X.2.1 dc_M_part_302 rfl (lv_at hl 4 rfl) ?_
                              refine cx_lald X B (wM_26 u ad T5 sc3) (i) (by omega) (by omega) (by decide) dc_M_part_303 ?_
                              rw [show T5 19 i 0 = S 19 i 0 + cs_sum (fun j => cs_cs (op_out S i) i k j - (op_out S i) 21 i j) g by rw [hT5]; simp [cs_u]]
                              refine lv_aload_n X.1 X.2.1 dc_M_part_304 rfl (lv_at hl 3 rfl) ?_
                              refine cx_get (v := .ref (ad 32 0)) X B (wM_20 u ad T5 sc3) rfl uw_M 13 (by decide) gf_M_45 rfl dc_M_part_305 ?_
                              refine lv_iload X.1 X.2.1 dc_M_part_308 (lv_at hl 2 rfl) ?_
                              refine cx_lald X B (wM_32 u ad T5 sc3) ((12 * i) + g) (by omega) (by omega) (by decide) dc_M_part_310 ?_
                              rw [show ((12 * i) + g) / 12 = i by omega, show ((12 * i) + g) % 12 = g by omega]
                              rw [show T5 21 i g = cs_cs (op_out S i) i k g by rw [hT5]; simp [cs_u]]
                              refine cx_ladd X dc_M_part_311 ?_
                              refine lv_lload X.1 X.2.1 dc_M_part_312 (lv_at hl 1 rfl) ?_
                              refine cx_lsub X dc_M_part_314 ?_
                              refine cx_last X B (wM_26 u ad T5 sc3) (i) (by omega) (by omega) (by decide) dc_M_part_315 (fun H locs B => ?_)
                              have B : cx_B u (cx_A (wM u ad S sc) sz) (cx_up (wM u ad T5 sc3) 26 0 (ad 26 0, .inl (u.2 1, 8, .inr (.inl (fun z_ => jL (va_up (fun z_ => T5 19 z_ 0) i (((S 19 i 0 + cs_sum (fun j => cs_cs (op_out S i) i k j - (op_out S i) 21 i j) g) + (cs_cs (op_out S i) i k g)) - ((op_out S i) 21 i g)) z_)))))) s H locs := B
                              have B : cx_B u (cx_A (wM u ad S sc) sz) (wM u ad (cs_u (op_co (op_out S i) i k (g + 1)) 19 i 0 (S 19 i 0 + cs_sum (fun j => cs_cs (op_out S i) i k j - (op_out S i) 21 i j) (g + 1))) sc3) s H locs := by
                                have e0 : wM u ad (cs_u T5 19 i 0 (S 19 i 0 + cs_sum (fun j => cs_cs (op_out S i) i k j - (op_out S i) 21 i j) g + cs_cs (op_out S i) i k g - (op_out S i) 21 i g)) sc3 = wM u ad (cs_u (op_co (op_out S i) i k (g + 1)) 19 i 0 (S 19 i 0 + cs_sum (fun j => cs_cs (op_out S i) i k j - (op_out S i) 21 i j) (g + 1))) sc3 := wM_c u ad sc3 (fun f x y hf => by
                                  rw [hT5, cs_sum_s]
                                  simp only [cs_u, op_co]
                                  by_cases q : f = 19 ∧ x = i ∧ y = 0
                                  · rw [if_pos q, if_pos q]; omega
                                  · rw [if_neg q, if_neg q]
                                    by_cases q2 : f = 21 ∧ x = i ∧ y = g
                                    · obtain ⟨rfl, rfl, rfl⟩ := q2
                                      simp [cs_ss]
                                    · rw [if_neg q2, if_neg q, if_neg (fun z => hf z.1), if_neg (fun z => hf z.1)]
                                      simp only [cs_ss]
                                      by_cases q3 : f = 21 ∧ x = i ∧ y < g
                                      · rw [if_pos q3, if_pos ⟨q3.1, q3.2.1, by omega⟩]
                                      · rw [if_neg q3, if_neg (fun z => q3 ⟨z.1, z.2.1, by rcases (show y < g ∨ y = g by omega) with w | w; exact w; exact absurd ⟨z.1, z.2.1, w⟩ q2⟩)])
                                rw [← e0, ← wM_f19 u ad T5 sc3]; exact B
                              refine lv_aload_n X.1 X.2.1 dc_M_part_316 rfl (lv_at hl 3 rfl) ?_
                              refine cx_get (v := .ref (ad 32 0)) X B (wM_20 u ad (cs_u (op_co (op_out S i) i k (g + 1)) 19 i 0 (S 19 i 0 + cs_sum (fun j => cs_cs (op_out S i) i k j - (op_out S i) 21 i j) (g + 1))) sc3) rfl uw_M 13 (by decide) gf_M_45 rfl dc_M_part_317 ?_
                              refine lv_iload X.1 X.2.1 dc_M_part_320 (lv_at hl 2 rfl) ?_
                              refine cx_lald X B (wM_32 u ad (cs_u (op_co (op_out S i) i k (g + 1)) 19 i 0 (S 19 i 0 + cs_sum (fun j => cs_cs (op_out S i) i k j - (op_out S i) 21 i j) (g + 1))) sc3) ((12 * i) + g) (by omega) (by omega) (by decide) dc_M_part_322 ?_
                              rw [show ((12 * i) + g) / 12 = i by omega, show ((12 * i) + g) % 12 = g by omega]
                              rw [show (cs_u (op_co (op_out S i) i k (g + 1)) 19 i 0 (S 19 i 0 + cs_sum (fun j => cs_cs (op_out S i) i k j - (op_out S i) 21 i j) (g + 1))) 21 i g = cs_cs (op_out S i) i k g by simp [op_co, cs_u, cs_ss]]
                              have hcsb : 0 ≤ cs_cs (op_out S i) i k g ∧ cs_cs (op_out S i) i k g ≤ 2000000000 := by
                                have q := (hj.2 k hf hk hki (g + 1) (by omega)).2.2.2.2.2.1 i g
                                have q2 : (op_co (op_out S i) i k (g + 1)) 21 i g = cs_cs (op_out S i) i k g := by simp [op_co, cs_u, cs_ss]
                                rw [q2] at q; omega
                              refine cx_lconst (a := 0) X dc_M_part_323 (by decide +kernel) ?_
                              refine cx_lcmp_le (tgt := 335) X (by omega) (by omega) (by omega) (by omega) dc_M_part_324 dc_M_part_325 (by decide) (fun c_40 => ?_) (fun c_40 => ?_)
                              · refine lv_iload X.1 X.2.1 dc_M_part_335 (lv_at hl 5 rfl) ?_
                                refine lv_istore (lv' := [(8, .int (jI (cs_cnt (cs_cs (op_out S i) i k) g))), (13, .long (jL (((op_out S i) 21 i g) + (cs_carry (op_out S i) k g)))), (11, .long (jL ((op_out S i) 21 i g))), (10, .int (jI ((12 * (i : Int)) + (g : Int)))), (0, .ref (ad 20 0)), (1, .int (jI ((i : Int)))), (9, .int (jI ((g : Int))))]) X.1 X.2.1 dc_M_part_337 hl (by decide) rfl (fun ls hl => ?_)
                                refine lv_iinc (v := jI ((g : Int) + 1)) (lv' := [(9, .int (jI ((g : Int) + 1))), (8, .int (jI (cs_cnt (cs_cs (op_out S i) i k) g))), (13, .long (jL (((op_out S i) 21 i g) + (cs_carry (op_out S i) k g)))), (11, .long (jL ((op_out S i) 21 i g))), (10, .int (jI ((12 * (i : Int)) + (g : Int)))), (0, .ref (ad 20 0)), (1, .int (jI ((i : Int))))]) X.1 X.2.1 dc_M_part_339 hl (k := 6) rfl (jI_add _ _) (by decide) rfl (fun ls hl => ?_)
                                refine lv_goto (tgt := 219) X.1 X.2.1 dc_M_part_342 (by decide) ?_
                                have qq : cs_cnt (cs_cs (op_out S i) i k) (g + 1) = cs_cnt (cs_cs (op_out S i) i k) g := by rw [cs_cnt_s, if_neg (by omega)]; omega
                                exact ih_32 (g + 1) ls _ _  (by omega) (by omega) B (by rw [qq]; exact lv_sub hl [5, 6, 1, 0] rfl)
                              · refine lv_iload X.1 X.2.1 dc_M_part_328 (lv_at hl 5 rfl) ?_
                                refine cx_iconst X dc_M_part_330 ?_
                                refine cx_iadd X dc_M_part_331 ?_
                                refine lv_goto (tgt := 337) X.1 X.2.1 dc_M_part_332 (by decide) ?_
                                refine lv_istore (lv' := [(8, .int (jI ((cs_cnt (cs_cs (op_out S i) i k) g) + 1))), (13, .long (jL (((op_out S i) 21 i g) + (cs_carry (op_out S i) k g)))), (11, .long (jL ((op_out S i) 21 i g))), (10, .int (jI ((12 * (i : Int)) + (g : Int)))), (0, .ref (ad 20 0)), (1, .int (jI ((i : Int)))), (9, .int (jI ((g : Int))))]) X.1 X.2.1 dc_M_part_337 hl (by decide) rfl (fun ls hl => ?_)
                                refine lv_iinc (v := jI ((g : Int) + 1)) (lv' := [(9, .int (jI ((g : Int) + 1))), (8, .int (jI ((cs_cnt (cs_cs (op_out S i) i k) g) + 1))), (13, .long (jL (((op_out S i) 21 i g) + (cs_carry (op_out S i) k g)))), (11, .long (jL ((op_out S i) 21 i g))), (10, .int (jI ((12 * (i : Int)) + (g : Int)))), (0, .ref (ad 20 0)), (1, .int (jI ((i : Int))))]) X.1 X.2.1 dc_M_part_339 hl (k := 6) rfl (jI_add _ _) (by decide) rfl (fun ls hl => ?_)
                                refine lv_goto (tgt := 219) X.1 X.2.1 dc_M_part_342 (by decide) ?_
                                have qq : cs_cnt (cs_cs (op_out S i) i k) (g + 1) = (cs_cnt (cs_cs (op_out S i) i k) g) + 1 := by rw [cs_cnt_s, if_pos (by omega)]
                                exact ih_32 (g + 1) ls _ _  (by omega) (by omega) B (by rw [qq]; exact lv_sub hl [5, 6, 1, 0] rfl)
                            · refine cx_lconst (a := 0) X dc_M_part_286 (by decide +kernel) ?_
                              refine lv_goto (tgt := 292) X.1 X.2.1 dc_M_part_287 (by decide) ?_
                              rw [show (0 : Int) = cs_cs (op_out S i) i k g by unfold cs_cs cs_mx; rw [if_pos (by omega)]]
                              refine cx_last X B (wM_32 u ad (cs_u (op_co (op_out S i) i k g) 19 i 0 (S 19 i 0 + cs_sum (fun j => cs_cs (op_out S i) i k j - (op_out S i) 21 i j) g)) sc3) ((12 * i) + g) (by omega) (by omega) (by decide) dc_M_part_292 (fun H locs B => ?_)
                              have B : cx_B u (cx_A (wM u ad S sc) sz) (cx_up (wM u ad (cs_u (op_co (op_out S i) i k g) 19 i 0 (S 19 i 0 + cs_sum (fun j => cs_cs (op_out S i) i k j - (op_out S i) 21 i j) g)) sc3) 32 0 (ad 32 0, .inl (u.2 1, 96, .inr (.inl (fun z_ => jL (va_up (fun z_ => (cs_u (op_co (op_out S i) i k g) 19 i 0 (S 19 i 0 + cs_sum (fun j => cs_cs (op_out S i) i k j - (op_out S i) 21 i j) g)) 21 (z_ / 12) (z_ % 12)) ((12 * i) + g) (cs_cs (op_out S i) i k g) z_)))))) s H locs := B
                              obtain ⟨T5, hT5⟩ : ∃ z, z = cs_u (cs_u (op_co (op_out S i) i k g) 19 i 0 (S 19 i 0 + cs_sum (fun j => cs_cs (op_out S i) i k j - (op_out S i) 21 i j) g)) 21 i g (cs_cs (op_out S i) i k g) := ⟨_, rfl⟩
                              have B : cx_B u (cx_A (wM u ad S sc) sz) (wM u ad T5 sc3) s H locs := by rw [hT5, ← wM_f21 u ad _ sc3 (by omega)]; exact B
                              refine lv_aload_n X.1 X.2.1 dc_M_part_293 rfl (lv_at hl 3 rfl) ?_
                              refine cx_get (v := .ref (ad 26 0)) X B (wM_20 u ad T5 sc3) rfl uw_M 6 (by decide) gf_M_27 rfl dc_M_part_294 ?_
                              refine lv_iload_n X.1 X.2.1 dc_M_part_297 rfl (lv_at hl 4 rfl) ?_
                              refine lv_aload_n X.1 X.2.1 dc_M_part_298 rfl (lv_at hl 3 rfl) ?_
                              refine cx_get (v := .ref (ad 26 0)) X B (wM_20 u ad T5 sc3) rfl uw_M 6 (by decide) gf_M_27 rfl dc_M_part_299 ?_
                              refine lv_iload_n X.1 X.2.1 dc_M_part_302 rfl (lv_at hl 4 rfl) ?_
                              refine cx_lald X B (wM_26 u ad T5 sc3) (i) (by omega) (by omega) (by decide) dc_M_part_303 ?_
                              rw [show T5 19 i 0 = S 19 i 0 + cs_sum (fun j => cs_cs (op_out S i) i k j - (op_out S i) 21 i j) g by rw [hT5]; simp [cs_u]]
                              refine lv_aload_n X.1 X.2.1 dc_M_part_304 rfl (lv_at hl 3 rfl) ?_
                              refine cx_get (v := .ref (ad 32 0)) X B (wM_20 u ad T5 sc3) rfl uw_M 13 (by decide) gf_M_45 rfl dc_M_part_305 ?_
                              refine lv_iload X.1 X.2.1 dc_M_part_308 (lv_at hl 2 rfl) ?_
                              refine cx_lald X B (wM_32 u ad T5 sc3) ((12 * i) + g) (by omega) (by omega) (by decide) dc_M_part_310 ?_
                              rw [show ((12 * i) + g) / 12 = i by omega, show ((12 * i) + g) % 12 = g by omega]
                              rw [show T5 21 i g = cs_cs (op_out S i) i k g by rw [hT5]; simp [cs_u]]
                              refine cx_ladd X dc_M_part_311 ?_
                              refine lv_lload X.1 X.2.1 dc_M_part_312 (lv_at hl 1 rfl) ?_
                              refine cx_lsub X dc_M_part_314 ?_
                              refine cx_last X B (wM_26 u ad T5 sc3) (i) (by omega) (by omega) (by decide) dc_M_part_315 (fun H locs B => ?_)
                              have B : cx_B u (cx_A (wM u ad S sc) sz) (cx_up (wM u ad T5 sc3) 26 0 (ad 26 0, .inl (u.2 1, 8, .inr (.inl (fun z_ => jL (va_up (fun z_ => T5 19 z_ 0) i (((S 19 i 0 + cs_sum (fun j => cs_cs (op_out S i) i k j - (op_out S i) 21 i j) g) + (cs_cs (op_out S i) i k g)) - ((op_out S i) 21 i g)) z_)))))) s H locs := B
                              have B : cx_B u (cx_A (wM u ad S sc) sz) (wM u ad (cs_u (op_co (op_out S i) i k (g + 1)) 19 i 0 (S 19 i 0 + cs_sum (fun j => cs_cs (op_out S i) i k j - (op_out S i) 21 i j) (g + 1))) sc3) s H locs := by
                                have e0 : wM u ad (cs_u T5 19 i 0 (S 19 i 0 + cs_sum (fun j => cs_cs (op_out S i) i k j - (op_out S i) 21 i j) g + cs_cs (op_out S i) i k g - (op_out S i) 21 i g)) sc3 = wM u ad (cs_u (op_co (op_out S i) i k (g + 1)) 19 i 0 (S 19 i 0 + cs_sum (fun j => cs_cs (op_out S i) i k j - (op_out S i) 21 i j) (g + 1))) sc3 := wM_c u ad sc3 (fun f x y hf => by
                                  rw [hT5, cs_sum_s]
                                  simp only [cs_u, op_co]
                                  by_cases q : f = 19 ∧ x = i ∧ y = 0
                                  · rw [if_pos q, if_pos q]; omega
                                  · rw [if_neg q, if_neg q]
                                    by_cases q2 : f = 21 ∧ x = i ∧ y = g
                                    · obtain ⟨rfl, rfl, rfl⟩ := q2
                                      simp [cs_ss]
                                    · rw [if_neg q2, if_neg q, if_neg (fun z => hf z.1), if_neg (fun z => hf z.1)]
                                      simp only [cs_ss]
                                      by_cases q3 : f = 21 ∧ x = i ∧ y < g
                                      · rw [if_pos q3, if_pos ⟨q3.1, q3.2.1, by omega⟩]
                                      · rw [if_neg q3, if_neg (fun z => q3 ⟨z.1, z.2.1, by rcases (show y < g ∨ y = g by omega) with w | w; exact w; exact absurd ⟨z.1, z.2.1, w⟩ q2⟩)])
                                rw [← e0, ← wM_f19 u ad T5 sc3]; exact B
                              refine lv_aload_n X.1 X.2.1 dc_M_part_316 rfl (lv_at hl 3 rfl) ?_
                              refine cx_get (v := .ref (ad 32 0)) X B (wM_20 u ad (cs_u (op_co (op_out S i) i k (g + 1)) 19 i 0 (S 19 i 0 + cs_sum (fun j => cs_cs (op_out S i) i k j - (op_out S i) 21 i j) (g + 1))) sc3) rfl uw_M 13 (by decide) gf_M_45 rfl dc_M_part_317 ?_
                              refine lv_iload X.1 X.2.1 dc_M_part_320 (lv_at hl 2 rfl) ?_
                              refine cx_lald X B (wM_32 u ad (cs_u (op_co (op_out S i) i k (g + 1)) 19 i 0 (S 19 i 0 + cs_sum (fun j => cs_cs (op_out S i) i k j - (op_out S i) 21 i j) (g + 1))) sc3) ((12 * i) + g) (by omega) (by omega) (by decide) dc_M_part_322 ?_
                              rw [show ((12 * i) + g) / 12 = i by omega, show ((12 * i) + g) % 12 = g by omega]
                              rw [show (cs_u (op_co (op_out S i) i k (g + 1)) 19 i 0 (S 19 i 0 + cs_sum (fun j => cs_cs (op_out S i) i k j - (op_out S i) 21 i j) (g + 1))) 21 i g = cs_cs (op_out S i) i k g by simp [op_co, cs_u, cs_ss]]
                              have hcsb : 0 ≤ cs_cs (op_out S i) i k g ∧ cs_cs (op_out S i) i k g ≤ 2000000000 := by
                                have q := (hj.2 k hf hk hki (g + 1) (by omega)).2.2.2.2.2.1 i g
                                have q2 : (op_co (op_out S i) i k (g + 1)) 21 i g = cs_cs (op_out S i) i k g := by simp [op_co, cs_u, cs_ss]
                                rw [q2] at q; omega
                              refine cx_lconst (a := 0) X dc_M_part_323 (by decide +kernel) ?_
                              refine cx_lcmp_le (tgt := 335) X (by omega) (by omega) (by omega) (by omega) dc_M_part_324 dc_M_part_325 (by decide) (fun c_41 => ?_) (fun c_41 => ?_)
                              · refine lv_iload X.1 X.2.1 dc_M_part_335 (lv_at hl 5 rfl) ?_
                                refine lv_istore (lv' := [(8, .int (jI (cs_cnt (cs_cs (op_out S i) i k) g))), (13, .long (jL (((op_out S i) 21 i g) + (cs_carry (op_out S i) k g)))), (11, .long (jL ((op_out S i) 21 i g))), (10, .int (jI ((12 * (i : Int)) + (g : Int)))), (0, .ref (ad 20 0)), (1, .int (jI ((i : Int)))), (9, .int (jI ((g : Int))))]) X.1 X.2.1 dc_M_part_337 hl (by decide) rfl (fun ls hl => ?_)
                                refine lv_iinc (v := jI ((g : Int) + 1)) (lv' := [(9, .int (jI ((g : Int) + 1))), (8, .int (jI (cs_cnt (cs_cs (op_out S i) i k) g))), (13, .long (jL (((op_out S i) 21 i g) + (cs_carry (op_out S i) k g)))), (11, .long (jL ((op_out S i) 21 i g))), (10, .int (jI ((12 * (i : Int)) + (g : Int)))), (0, .ref (ad 20 0)), (1, .int (jI ((i : Int))))]) X.1 X.2.1 dc_M_part_339 hl (k := 6) rfl (jI_add _ _) (by decide) rfl (fun ls hl => ?_)
                                refine lv_goto (tgt := 219) X.1 X.2.1 dc_M_part_342 (by decide) ?_
                                have qq : cs_cnt (cs_cs (op_out S i) i k) (g + 1) = cs_cnt (cs_cs (op_out S i) i k) g := by rw [cs_cnt_s, if_neg (by omega)]; omega
                                exact ih_32 (g + 1) ls _ _  (by omega) (by omega) B (by rw [qq]; exact lv_sub hl [5, 6, 1, 0] rfl)
                              · refine lv_iload X.1 X.2.1 dc_M_part_328 (lv_at hl 5 rfl) ?_
                                refine cx_iconst X dc_M_part_330 ?_
                                refine cx_iadd X dc_M_part_331 ?_
                                refine lv_goto (tgt := 337) X.1 X.2.1 dc_M_part_332 (by decide) ?_
                                refine lv_istore (lv' := [(8, .int (jI ((cs_cnt (cs_cs (op_out S i) i k) g) + 1))), (13, .long (jL (((op_out S i) 21 i g) + (cs_carry (op_out S i) k g)))), (11, .long (jL ((op_out S i) 21 i g))), (10, .int (jI ((12 * (i : Int)) + (g : Int)))), (0, .ref (ad 20 0)), (1, .int (jI ((i : Int)))), (9, .int (jI ((g : Int))))]) X.1 X.2.1 dc_M_part_337 hl (by decide) rfl (fun ls hl => ?_)
                                refine lv_iinc (v := jI ((g : Int) + 1)) (lv' := [(9, .int (jI ((g : Int) + 1))), (8, .int (jI ((cs_cnt (cs_cs (op_out S i) i k) g) + 1))), (13, .long (jL (((op_out S i) 21 i g) + (cs_carry (op_out S i) k g)))), (11, .long (jL ((op_out S i) 21 i g))), (10, .int (jI ((12 * (i : Int)) + (g : Int)))), (0, .ref (ad 20 0)), (1, .int (jI ((i : Int))))]) X.1 X.2.1 dc_M_part_339 hl (k := 6) rfl (jI_add _ _) (by decide) rfl (fun ls hl => ?_)
                                refine lv_goto (tgt := 219) X.1 X.2.1 dc_M_part_342 (by decide) ?_
                                have qq : cs_cnt (cs_cs (op_out S i) i k) (g + 1) = (cs_cnt (cs_cs (op_out S i) i k) g) + 1 := by rw [cs_cnt_s, if_pos (by omega)]
                                exact ih_32 (g + 1) ls _ _  (by omega) (by omega) B (by rw [qq]; exact lv_sub hl [5, 6, 1, 0] rfl)
                      exact lp_30 ((S 1 0 0 : Int).toNat + 1) 0 ls _ _  (by omega) (by omega) B (by  exact lv_sub hl [2, 3, 1, 0] rfl)
                  · refine cx_iconst X dc_M_part_130 ?_
                    refine lv_istore (lv' := [(8, .int (jI (0))), (0, .ref (ad 20 0)), (1, .int (jI ((i : Int)))), (6, .long (jL (cs_spare (S 20 i) (S 12 i 0 - S 13 i 0) (cs_sum (S 20 i) 12) - (t : Int))))]) X.1 X.2.1 dc_M_part_131 hl (by decide) rfl (fun ls hl => ?_)
                    refine cx_iconst X dc_M_part_133 ?_
                    refine lv_istore (lv' := [(9, .int (jI (1))), (8, .int (jI (0))), (0, .ref (ad 20 0)), (1, .int (jI ((i : Int)))), (6, .long (jL (cs_spare (S 20 i) (S 12 i 0 - S 13 i 0) (cs_sum (S 20 i) 12) - (t : Int))))]) X.1 X.2.1 dc_M_part_134 hl (by decide) rfl (fun ls hl => ?_)
                    have lp_42 : ∀ (n_43 k : Nat) (ls : Array Slot) (H : Heap) (locs : List Loc) (b : Nat) (hbk : b < k) (hbest : ∀ j, j < k → sc3 0 j < sc3 0 b ∨ (sc3 0 j = sc3 0 b ∧ b ≤ j)), (1 : Int) ≤ (k : Int) → (k : Int) ≤ S 1 0 0 → S 1 0 0 - (k : Int) < (n_43 : Int) → cx_B u (cx_A (wM u ad S sc) sz) (wM u ad T3 sc3) s H locs → lv_has ls 15 [(0, .ref (ad 20 0)), (1, .int (jI ((i : Int)))), (6, .long (jL (cs_spare (S 20 i) (S 12 i 0 - S 13 i 0) (cs_sum (S 20 i) 12) - (t : Int)))), (8, .int (jI ((b : Int)))), (9, .int (jI ((k : Int))))] → W p l e (cx_R 4 100 0 0) s m args below meth c H locs 0 0 (MQ below (cx_Q u (wM u ad S sc) sz (some (.int (jI (cs_partQ S (i : Int))))) (fun w' => ∃ sc', w' = wM u ad (op_part S (i : Int)) sc')) args s 0 0 (cx_A (wM u ad S sc) sz)) (F0 m 136 ls []) := by
                      intro n_43
                      induction n_43 with
                      | zero => intro k ls H locs b hbk hbest hi_450 hi_45 hn_46; exfalso; omega
                      | succ n_43 ih_44 =>
                        intro k ls H locs b hbk hbest hi_450 hi_45 hn_46 B hl
                        refine lv_iload X.1 X.2.1 dc_M_part_136 (lv_at hl 4 rfl) ?_
                        refine lv_aload_n X.1 X.2.1 dc_M_part_138 rfl (lv_at hl 0 rfl) ?_
                        refine cx_get (v := .int (jI (T3 1 0 0))) X B (wM_20 u ad T3 sc3) rfl uw_M 9 (by decide) gf_M_86 rfl dc_M_part_139 ?_
                        refine cx_icmp_ge (tgt := 178) X (by omega) (by omega) (by omega) (by omega) dc_M_part_142 (by decide) (fun c_47 => ?_) (fun c_47 => ?_)
                        · have hkh : k = h := by omega
                          obtain ⟨j0, hj0, hj1⟩ := cs_pk_ex (pk := pk) (n := h) (by rw [b3]; omega)
                          have hnp : ¬ pk b := fun q => by
                            have q1 := ((b1 b (by omega)).1 q).2
                            have q2 := ((b1 j0 hj0).2 hj1).2
                            have q3 := hbest j0 (by omega)
                            have q4 := hreb j0
                            omega
                          refine lv_aload_n X.1 X.2.1 dc_M_part_178 rfl (lv_at hl 0 rfl) ?_
                          refine cx_get (v := .ref (ad 32 0)) X B (wM_20 u ad T3 sc3) rfl uw_M 13 (by decide) gf_M_45 rfl dc_M_part_179 ?_
                          refine cx_bipush X dc_M_part_182 (by decide +kernel) ?_
                          refine lv_iload_n X.1 X.2.1 dc_M_part_184 rfl (lv_at hl 1 rfl) ?_
                          refine cx_imul X dc_M_part_185 ?_
                          refine lv_iload X.1 X.2.1 dc_M_part_186 (lv_at hl 3 rfl) ?_
                          refine cx_iadd X dc_M_part_188 ?_
                          refine lv_dup2_11 X.1 X.2.1 dc_M_part_189 rfl rfl ?_
                          refine cx_lald X B (wM_32 u ad T3 sc3) ((12 * i) + b) (by omega) (by omega) (by decide) dc_M_part_190 ?_
                          rw [show ((12 * i) + b) / 12 = i by omega, show ((12 * i) + b) % 12 = b by omega]
                          refine cx_lconst (a := 1) X dc_M_part_191 (by decide +kernel) ?_
                          refine cx_ladd X dc_M_part_192 ?_
                          refine cx_last X B (wM_32 u ad T3 sc3) ((12 * i) + b) (by omega) (by omega) (by decide) dc_M_part_193 (fun H locs B => ?_)
                          have B : cx_B u (cx_A (wM u ad S sc) sz) (cx_up (wM u ad T3 sc3) 32 0 (ad 32 0, .inl (u.2 1, 96, .inr (.inl (fun z_ => jL (va_up (fun z_ => T3 21 (z_ / 12) (z_ % 12)) ((12 * i) + b) ((T3 21 i b) + 1) z_)))))) s H locs := B
                          obtain ⟨T4, hT4⟩ : ∃ z, z = cs_u T3 21 i b (T3 21 i b + 1) := ⟨_, rfl⟩
                          have B : cx_B u (cx_A (wM u ad S sc) sz) (wM u ad T4 sc3) s H locs := by rw [hT4, ← wM_f21 u ad _ sc3 (by omega)]; exact B
                          refine lv_aload_n X.1 X.2.1 dc_M_part_194 rfl (lv_at hl 0 rfl) ?_
                          refine cx_get (v := .ref (ad 33 0)) X B (wM_20 u ad T4 sc3) rfl uw_M 14 (by decide) gf_M_48 rfl dc_M_part_195 ?_
                          refine lv_iload X.1 X.2.1 dc_M_part_198 (lv_at hl 3 rfl) ?_
                          refine cx_ldc2 (a := -1) X gk_M_109 (by decide +kernel) dc_M_part_200 ?_
                          refine cx_last X B (wM_33 u ad T4 sc3) (b) (by omega) (by omega) (by decide) dc_M_part_203 (fun H locs B => ?_)
                          have B : cx_B u (cx_A (wM u ad S sc) sz) (cx_up (wM u ad T4 sc3) 33 0 (ad 33 0, .inl (u.2 1, 12, .inr (.inl (fun z_ => jL (va_up (fun z_ => sc3 0 z_) b (-1) z_)))))) s H locs := B
                          obtain ⟨sc4, hsc4⟩ : ∃ z, z = cs_su sc3 0 b (-1) := ⟨_, rfl⟩
                          have B : cx_B u (cx_A (wM u ad S sc) sz) (wM u ad T4 sc4) s H locs := by rw [hsc4, ← wM_s0]; exact B
                          refine lv_lload X.1 X.2.1 dc_M_part_204 (lv_at hl 2 rfl) ?_
                          refine cx_lconst (a := 1) X dc_M_part_206 (by decide +kernel) ?_
                          refine cx_lsub X dc_M_part_207 ?_
                          refine lv_lstore (lv' := [(6, .long (jL ((cs_spare (S 20 i) (S 12 i 0 - S 13 i 0) (cs_sum (S 20 i) 12) - (t : Int)) - 1))), (0, .ref (ad 20 0)), (1, .int (jI ((i : Int)))), (8, .int (jI ((b : Int)))), (9, .int (jI ((k : Int))))]) X.1 X.2.1 dc_M_part_208 hl (by decide) rfl (fun ls hl => ?_)
                          refine lv_goto (tgt := 123) X.1 X.2.1 dc_M_part_210 (by decide) ?_
                          obtain ⟨pk2, hpk2⟩ : ∃ z : Nat → Prop, z = fun j => pk j ∨ j = b := ⟨_, rfl⟩
                          have m1 : ∀ f x y, ¬ (f = 21 ∧ x = i) → T4 f x y = S f x y := fun f x y q => by rw [hT4, cs_u, if_neg (fun z => q ⟨z.1, z.2.1⟩)]; exact hT3 f x y q
                          have m2 : ∀ j : Nat, S 1 0 0 ≤ (j : Int) → T4 21 i j = 0 := fun j hj => by rw [hT4]; simp [cs_u, show ¬ j = b by omega]; exact hZ3 j hj
                          have m3 : ∀ j, j < h → (pk2 j → T4 21 i j = cs_qu (S 20 i) (S 12 i 0 - S 13 i 0) (cs_sum (S 20 i) 12) j + 1 ∧ sc4 0 j = -1) ∧ (¬ pk2 j → T4 21 i j = cs_qu (S 20 i) (S 12 i 0 - S 13 i 0) (cs_sum (S 20 i) 12) j ∧ sc4 0 j = cs_re (S 20 i) (S 12 i 0 - S 13 i 0) (cs_sum (S 20 i) 12) j) := fun j hj => by
                            rw [hpk2, hT4, hsc4]
                            by_cases hjb : j = b
                            · subst hjb
                              refine ⟨fun _ => ?_, fun q => absurd (Or.inr rfl) q⟩
                              simp [cs_u, cs_su]; exact ((b1 j hj).2 hnp).1
                            · have q := b1 j hj
                              refine ⟨fun z => ?_, fun z => ?_⟩
                              · have z1 := q.1 (z.resolve_right hjb); simp [cs_u, cs_su, hjb]; exact z1
                              · have z1 := q.2 (fun y => z (Or.inl y)); simp [cs_u, cs_su, hjb]; exact z1
                          have m4 : ∀ j k, j < h → k < h → pk2 j → (cs_re (S 20 i) (S 12 i 0 - S 13 i 0) (cs_sum (S 20 i) 12) j < cs_re (S 20 i) (S 12 i 0 - S 13 i 0) (cs_sum (S 20 i) 12) k ∨ (cs_re (S 20 i) (S 12 i 0 - S 13 i 0) (cs_sum (S 20 i) 12) k = cs_re (S 20 i) (S 12 i 0 - S 13 i 0) (cs_sum (S 20 i) 12) j ∧ k < j)) → pk2 k := fun j k hj hk q1 q2 => by
                            rw [hpk2] at q1 ⊢
                            rcases q1 with q1 | q1
                            · exact Or.inl (b2 j k hj hk q1 q2)
                            · subst q1
                              by_cases hp : pk k
                              · exact Or.inl hp
                              · exfalso
                                have z1 := ((b1 k hk).2 hp).2
                                have z2 := hbest k (by omega)
                                have z3 := ((b1 j hj).2 hnp).2
                                omega
                          have m5 : cs_sum (fun j => jB (pk2 j)) h = ((t + 1 : Nat) : Int) := by
                            rw [cs_sum_up (f := fun j => jB (pk2 j)) (g := fun j => jB (pk j)) (b := b) (n := h) (fun k hk => jB_c (by rw [hpk2]; exact ⟨fun q => q.resolve_right hk, Or.inl⟩)) (by omega)]
                            show cs_sum (fun j => jB (pk j)) h + (jB (pk2 b) - jB (pk b)) = _
                            rw [jB_f hnp, jB_t (show pk2 b by rw [hpk2]; exact Or.inr rfl), b3]
                            omega
                          exact ih_16 (t + 1) ls _ _ T4 sc4 pk2 m1 m2 m3 m4 m5 (by omega) (by omega) B (by rw [show cs_spare (S 20 i) (S 12 i 0 - S 13 i 0) (cs_sum (S 20 i) 12) - ((t + 1 : Nat) : Int) = cs_spare (S 20 i) (S 12 i 0 - S 13 i 0) (cs_sum (S 20 i) 12) - (t : Int) - 1 by omega]; exact lv_sub hl [1, 2, 0] rfl)
                        · refine lv_aload_n X.1 X.2.1 dc_M_part_145 rfl (lv_at hl 0 rfl) ?_
                          refine cx_get (v := .ref (ad 33 0)) X B (wM_20 u ad T3 sc3) rfl uw_M 14 (by decide) gf_M_48 rfl dc_M_part_146 ?_
                          refine lv_iload X.1 X.2.1 dc_M_part_149 (lv_at hl 4 rfl) ?_
                          refine cx_lald X B (wM_33 u ad T3 sc3) (k) (by omega) (by omega) (by decide) dc_M_part_151 ?_
                          have r_48 := hrb k (by omega)
                          refine lv_aload_n X.1 X.2.1 dc_M_part_152 rfl (lv_at hl 0 rfl) ?_
                          refine cx_get (v := .ref (ad 33 0)) X B (wM_20 u ad T3 sc3) rfl uw_M 14 (by decide) gf_M_48 rfl dc_M_part_153 ?_
                          refine lv_iload X.1 X.2.1 dc_M_part_156 (lv_at hl 3 rfl) ?_
                          refine cx_lald X B (wM_33 u ad T3 sc3) (b) (by omega) (by omega) (by decide) dc_M_part_158 ?_
                          have r_49 := hrb b (by omega)
                          refine cx_lcmp_le (tgt := 168) X (by omega) (by omega) (by omega) (by omega) dc_M_part_159 dc_M_part_160 (by decide) (fun c_50 => ?_) (fun c_50 => ?_)
                          · refine lv_iload X.1 X.2.1 dc_M_part_168 (lv_at hl 3 rfl) ?_
                            refine lv_istore (lv' := [(8, .int (jI ((b : Int)))), (0, .ref (ad 20 0)), (1, .int (jI ((i : Int)))), (6, .long (jL (cs_spare (S 20 i) (S 12 i 0 - S 13 i 0) (cs_sum (S 20 i) 12) - (t : Int)))), (9, .int (jI ((k : Int))))]) X.1 X.2.1 dc_M_part_170 hl (by decide) rfl (fun ls hl => ?_)
                            refine lv_iinc (v := jI ((k : Int) + 1)) (lv' := [(9, .int (jI ((k : Int) + 1))), (8, .int (jI ((b : Int)))), (0, .ref (ad 20 0)), (1, .int (jI ((i : Int)))), (6, .long (jL (cs_spare (S 20 i) (S 12 i 0 - S 13 i 0) (cs_sum (S 20 i) 12) - (t : Int))))]) X.1 X.2.1 dc_M_part_172 hl (k := 4) rfl (jI_add _ _) (by decide) rfl (fun ls hl => ?_)
                            refine lv_goto (tgt := 136) X.1 X.2.1 dc_M_part_175 (by decide) ?_
                            have hb2 : ∀ j, j < k + 1 → sc3 0 j < sc3 0 b ∨ (sc3 0 j = sc3 0 b ∧ b ≤ j) := fun j hj => by
                              rcases (show j < k ∨ j = k by omega) with q | q
                              · have := hbest j q; omega
                              · subst q; omega
                            exact ih_44 (k + 1) ls _ _ b (by omega) hb2 (by omega) (by omega) (by omega) B (by  exact lv_sub hl [2, 3, 4, 1, 0] rfl)
                          · refine lv_iload X.1 X.2.1 dc_M_part_163 (lv_at hl 4 rfl) ?_
                            refine lv_goto (tgt := 170) X.1 X.2.1 dc_M_part_165 (by decide) ?_
                            refine lv_istore (lv' := [(8, .int (jI ((k : Int)))), (0, .ref (ad 20 0)), (1, .int (jI ((i : Int)))), (6, .long (jL (cs_spare (S 20 i) (S 12 i 0 - S 13 i 0) (cs_sum (S 20 i) 12) - (t : Int)))), (9, .int (jI ((k : Int))))]) X.1 X.2.1 dc_M_part_170 hl (by decide) rfl (fun ls hl => ?_)
                            refine lv_iinc (v := jI ((k : Int) + 1)) (lv' := [(9, .int (jI ((k : Int) + 1))), (8, .int (jI ((k : Int)))), (0, .ref (ad 20 0)), (1, .int (jI ((i : Int)))), (6, .long (jL (cs_spare (S 20 i) (S 12 i 0 - S 13 i 0) (cs_sum (S 20 i) 12) - (t : Int))))]) X.1 X.2.1 dc_M_part_172 hl (k := 4) rfl (jI_add _ _) (by decide) rfl (fun ls hl => ?_)
                            refine lv_goto (tgt := 136) X.1 X.2.1 dc_M_part_175 (by decide) ?_
                            have hb2 : ∀ j, j < k + 1 → sc3 0 j < sc3 0 k ∨ (sc3 0 j = sc3 0 k ∧ k ≤ j) := fun j hj => by
                              rcases (show j < k ∨ j = k by omega) with q | q
                              · have := hbest j q; omega
                              · subst q; omega
                            exact ih_44 (k + 1) ls _ _ k (by omega) hb2 (by omega) (by omega) (by omega) B (by  exact lv_sub hl [2, 3, 4, 1, 0] rfl)
                    exact lp_42 ((S 1 0 0 : Int).toNat + 1) 1 ls _ _ 0 (by omega) (fun j hj => Or.inr ⟨by rw [show j = 0 by omega], by omega⟩) (by omega) (by omega) (by omega) B (by  exact lv_sub hl [2, 3, 4, 1, 0] rfl)
              exact lp_14 ((cs_spare (S 20 i) (S 12 i 0 - S 13 i 0) (cs_sum (S 20 i) 12) : Int).toNat + 1) 0 ls _ _ T sc1 (fun _ => False) hT hZ (fun j hj => ⟨fun q => q.elim, fun _ => hA j hj⟩) (fun _ _ _ _ q _ => q) (by have q := cs_sum_z (f := fun _ => jB False) (n := 0) (k := h) (fun _ _ => jB_f (fun z => z)); rw [Nat.zero_add] at q; exact q) (by omega) (by omega) B (by rw [show cs_spare (S 20 i) (S 12 i 0 - S 13 i 0) (cs_sum (S 20 i) 12) - ((0 : Nat) : Int) = cs_spare (S 20 i) (S 12 i 0 - S 13 i 0) (cs_sum (S 20 i) 12) by omega]; exact lv_sub hl [0, 1, 4] rfl)
            · refine lv_lload X.1 X.2.1 dc_M_part_64 (lv_at hl 3 rfl) ?_
              refine lv_aload_n X.1 X.2.1 dc_M_part_66 rfl (lv_at hl 0 rfl) ?_
              refine cx_get (v := .ref (ad 31 0)) X B (wM_20 u ad T sc1) rfl uw_M 12 (by decide) gf_M_42 rfl dc_M_part_67 ?_
              refine cx_bipush X dc_M_part_70 (by decide +kernel) ?_
              refine lv_iload_n X.1 X.2.1 dc_M_part_72 rfl (lv_at hl 1 rfl) ?_
              refine cx_imul X dc_M_part_73 ?_
              refine lv_iload X.1 X.2.1 dc_M_part_74 (lv_at hl 5 rfl) ?_
              refine cx_iadd X dc_M_part_76 ?_
              refine cx_lald X B (wM_31 u ad T sc1) ((12 * i) + h) (by omega) (by omega) (by decide) dc_M_part_77 ?_
              rw [show ((12 * i) + h) / 12 = i by omega, show ((12 * i) + h) % 12 = h by omega]
              rw [hT 20 i h (fun q => absurd q.1 (by decide))]
              refine cx_lmul X dc_M_part_78 ?_
              refine lv_lstore (lv' := [(9, .long (jL ((S 12 i 0 - S 13 i 0) * (S 20 i h)))), (0, .ref (ad 20 0)), (1, .int (jI ((i : Int)))), (2, .long (jL (cs_sum (S 20 i) 12))), (4, .long (jL (S 12 i 0 - S 13 i 0))), (6, .long (jL (S 12 i 0 - S 13 i 0 - cs_sum (cs_qu (S 20 i) (S 12 i 0 - S 13 i 0) (cs_sum (S 20 i) 12)) h))), (8, .int (jI ((h : Int))))]) X.1 X.2.1 dc_M_part_79 hl (by decide) rfl (fun ls hl => ?_)
              refine lv_aload_n X.1 X.2.1 dc_M_part_81 rfl (lv_at hl 1 rfl) ?_
              refine cx_get (v := .ref (ad 32 0)) X B (wM_20 u ad T sc1) rfl uw_M 13 (by decide) gf_M_45 rfl dc_M_part_82 ?_
              refine cx_bipush X dc_M_part_85 (by decide +kernel) ?_
              refine lv_iload_n X.1 X.2.1 dc_M_part_87 rfl (lv_at hl 2 rfl) ?_
              refine cx_imul X dc_M_part_88 ?_
              refine lv_iload X.1 X.2.1 dc_M_part_89 (lv_at hl 6 rfl) ?_
              refine cx_iadd X dc_M_part_91 ?_
              refine lv_lload X.1 X.2.1 dc_M_part_92 (lv_at hl 0 rfl) ?_
              refine lv_lload_n X.1 X.2.1 dc_M_part_94 rfl (lv_at hl 3 rfl) ?_
              refine cx_ldiv X (by omega) (by omega) (by omega) (by omega) dc_M_part_95 ?_
              refine cx_last X B (wM_32 u ad T sc1) ((12 * i) + h) (by omega) (by omega) (by decide) dc_M_part_96 (fun H locs B => ?_)
              have B : cx_B u (cx_A (wM u ad S sc) sz) (cx_up (wM u ad T sc1) 32 0 (ad 32 0, .inl (u.2 1, 96, .inr (.inl (fun z_ => jL (va_up (fun z_ => T 21 (z_ / 12) (z_ % 12)) ((12 * i) + h) (((S 12 i 0 - S 13 i 0) * (S 20 i h)) / (cs_sum (S 20 i) 12)) z_)))))) s H locs := B
              obtain ⟨T2, hT2⟩ : ∃ z, z = cs_u T 21 i h ((S 12 i 0 - S 13 i 0) * S 20 i h / cs_sum (S 20 i) 12) := ⟨_, rfl⟩
              have B : cx_B u (cx_A (wM u ad S sc) sz) (wM u ad T2 sc1) s H locs := by rw [hT2, ← wM_f21 u ad _ sc1 (by omega)]; exact B
              refine lv_aload_n X.1 X.2.1 dc_M_part_97 rfl (lv_at hl 1 rfl) ?_
              refine cx_get (v := .ref (ad 33 0)) X B (wM_20 u ad T2 sc1) rfl uw_M 14 (by decide) gf_M_48 rfl dc_M_part_98 ?_
              refine lv_iload X.1 X.2.1 dc_M_part_101 (lv_at hl 6 rfl) ?_
              refine lv_lload X.1 X.2.1 dc_M_part_103 (lv_at hl 0 rfl) ?_
              refine lv_lload_n X.1 X.2.1 dc_M_part_105 rfl (lv_at hl 3 rfl) ?_
              refine cx_lrem X (by omega) (by omega) (by omega) (by omega) dc_M_part_106 ?_
              refine cx_last X B (wM_33 u ad T2 sc1) (h) (by omega) (by omega) (by decide) dc_M_part_107 (fun H locs B => ?_)
              have B : cx_B u (cx_A (wM u ad S sc) sz) (cx_up (wM u ad T2 sc1) 33 0 (ad 33 0, .inl (u.2 1, 12, .inr (.inl (fun z_ => jL (va_up (fun z_ => sc1 0 z_) h (((S 12 i 0 - S 13 i 0) * (S 20 i h)) % (cs_sum (S 20 i) 12)) z_)))))) s H locs := B
              obtain ⟨sc2, hsc2⟩ : ∃ z, z = cs_su sc1 0 h ((S 12 i 0 - S 13 i 0) * S 20 i h % cs_sum (S 20 i) 12) := ⟨_, rfl⟩
              have B : cx_B u (cx_A (wM u ad S sc) sz) (wM u ad T2 sc2) s H locs := by rw [hsc2, ← wM_s0]; exact B
              refine lv_lload X.1 X.2.1 dc_M_part_108 (lv_at hl 5 rfl) ?_
              refine lv_lload X.1 X.2.1 dc_M_part_110 (lv_at hl 0 rfl) ?_
              refine lv_lload_n X.1 X.2.1 dc_M_part_112 rfl (lv_at hl 3 rfl) ?_
              refine cx_ldiv X (by omega) (by omega) (by omega) (by omega) dc_M_part_113 ?_
              refine cx_lsub X dc_M_part_114 ?_
              refine lv_lstore (lv' := [(6, .long (jL ((S 12 i 0 - S 13 i 0 - cs_sum (cs_qu (S 20 i) (S 12 i 0 - S 13 i 0) (cs_sum (S 20 i) 12)) h) - (((S 12 i 0 - S 13 i 0) * (S 20 i h)) / (cs_sum (S 20 i) 12))))), (9, .long (jL ((S 12 i 0 - S 13 i 0) * (S 20 i h)))), (0, .ref (ad 20 0)), (1, .int (jI ((i : Int)))), (2, .long (jL (cs_sum (S 20 i) 12))), (4, .long (jL (S 12 i 0 - S 13 i 0))), (8, .int (jI ((h : Int))))]) X.1 X.2.1 dc_M_part_115 hl (by decide) rfl (fun ls hl => ?_)
              refine lv_iinc (v := jI ((h : Int) + 1)) (lv' := [(8, .int (jI ((h : Int) + 1))), (6, .long (jL ((S 12 i 0 - S 13 i 0 - cs_sum (cs_qu (S 20 i) (S 12 i 0 - S 13 i 0) (cs_sum (S 20 i) 12)) h) - (((S 12 i 0 - S 13 i 0) * (S 20 i h)) / (cs_sum (S 20 i) 12))))), (9, .long (jL ((S 12 i 0 - S 13 i 0) * (S 20 i h)))), (0, .ref (ad 20 0)), (1, .int (jI ((i : Int)))), (2, .long (jL (cs_sum (S 20 i) 12))), (4, .long (jL (S 12 i 0 - S 13 i 0)))]) X.1 X.2.1 dc_M_part_117 hl (k := 6) rfl (jI_add _ _) (by decide) rfl (fun ls hl => ?_)
              refine lv_goto (tgt := 55) X.1 X.2.1 dc_M_part_120 (by decide) ?_
              have n1 : ∀ f x y, ¬ (f = 21 ∧ x = i) → T2 f x y = S f x y := fun f x y q => by rw [hT2, cs_u, if_neg (fun z => q ⟨z.1, z.2.1⟩)]; exact hT f x y q
              have n2 : ∀ j, j < h + 1 → T2 21 i j = cs_qu (S 20 i) (S 12 i 0 - S 13 i 0) (cs_sum (S 20 i) 12) j ∧ sc2 0 j = cs_re (S 20 i) (S 12 i 0 - S 13 i 0) (cs_sum (S 20 i) 12) j := fun j hj => by
                rw [hT2, hsc2]
                by_cases hjh : j = h
                · subst hjh; simp [cs_u, cs_su]; exact ⟨rfl, rfl⟩
                · simp [cs_u, cs_su, hjh]; exact hA j (by omega)
              have n3 : ∀ j : Nat, S 1 0 0 ≤ (j : Int) → T2 21 i j = 0 := fun j hj => by
                rw [hT2]; simp [cs_u, show ¬ j = h by omega]; exact hZ j hj
              have qq : S 12 i 0 - S 13 i 0 - cs_sum (cs_qu (S 20 i) (S 12 i 0 - S 13 i 0) (cs_sum (S 20 i) 12)) (h + 1) = S 12 i 0 - S 13 i 0 - cs_sum (cs_qu (S 20 i) (S 12 i 0 - S 13 i 0) (cs_sum (S 20 i) 12)) h - (S 12 i 0 - S 13 i 0) * S 20 i h / cs_sum (S 20 i) 12 := by
                rw [cs_sum_s]; show _ - (_ + (S 12 i 0 - S 13 i 0) * S 20 i h / cs_sum (S 20 i) 12) = _; omega
              exact ih_10 (h + 1) ls _ _ T2 sc2 n1 n2 n3 (by omega) (by omega) B (by rw [qq]; exact lv_sub hl [3, 4, 5, 6, 1, 0] rfl)
        exact lp_8 ((S 1 0 0 : Int).toNat + 1) 0 ls _ _ S sc (fun _ _ _ _ => rfl) (fun j hj => absurd hj (by omega)) (fun j hj => (hY i j hj).2) (by omega) (by omega) B (by rw [show S 12 i 0 - S 13 i 0 - cs_sum (cs_qu (S 20 i) (S 12 i 0 - S 13 i 0) (cs_sum (S 20 i) 12)) 0 = S 12 i 0 - S 13 i 0 by simp [cs_sum]]; exact lv_sub hl [4, 5, 3, 2, 1, 0] rfl)
      · refine cx_iconst X dc_M_part_31 ?_
        have hQ : ¬ (0 ≤ (i : Int) ∧ (i : Int) < S 0 0 0 ∧ S 14 (i : Int).toNat 0 = 0 ∧ 1 ≤ cs_sum (S 20 (i : Int).toNat) 12) := by (try simp only [cs_nn]); omega
        exact cx_iretM X B hsz hr hlk (Nat.le_of_ble_eq_true rfl) (Nat.le_of_ble_eq_true rfl) (by rw [cs_partQ, if_neg hQ]) (⟨_, by rw [op_part, if_neg hQ]⟩) dc_M_part_32
    · refine cx_iconst X dc_M_part_17 ?_
      have hQ : ¬ (0 ≤ (i : Int) ∧ (i : Int) < S 0 0 0 ∧ S 14 (i : Int).toNat 0 = 0 ∧ 1 ≤ cs_sum (S 20 (i : Int).toNat) 12) := by (try simp only [cs_nn]); omega
      exact cx_iretM X B hsz hr hlk (Nat.le_of_ble_eq_true rfl) (Nat.le_of_ble_eq_true rfl) (by rw [cs_partQ, if_neg hQ]) (⟨_, by rw [op_part, if_neg hQ]⟩) dc_M_part_18
