/-! PARTING -/
def cs_ss (S : cs_S) (i : Nat) (f : Nat → Int) (n : Nat) : cs_S := fun f' i' j' => if f' = 21 ∧ i' = i ∧ j' < n then f j' else S f' i' j'
def cs_qu (wt : Nat → Int) (wh tot : Int) (h : Nat) : Int := wh * wt h / tot
def cs_re (wt : Nat → Int) (wh tot : Int) (h : Nat) : Int := wh * wt h % tot
def cs_rk (wt : Nat → Int) (wh tot : Int) (h : Nat) : Nat → Int := cs_sum (fun k => if cs_re wt wh tot h < cs_re wt wh tot k ∨ (cs_re wt wh tot k = cs_re wt wh tot h ∧ k < h) then 1 else 0)
theorem cs_rk_s (wt : Nat → Int) (wh tot : Int) (h n : Nat) : cs_rk wt wh tot h (n + 1) = cs_rk wt wh tot h n + (if cs_re wt wh tot h < cs_re wt wh tot n ∨ (cs_re wt wh tot n = cs_re wt wh tot h ∧ n < h) then 1 else 0) := rfl
theorem cs_rk_b (wt : Nat → Int) (wh tot : Int) (h n : Nat) : 0 ≤ cs_rk wt wh tot h n ∧ cs_rk wt wh tot h n ≤ (n : Int) := by
  have := cs_sum_b (f := fun k => if cs_re wt wh tot h < cs_re wt wh tot k ∨ (cs_re wt wh tot k = cs_re wt wh tot h ∧ k < h) then (1 : Int) else 0) (a := 0) (b := 1) (n := n) (fun k _ => by
    show 0 ≤ (if cs_re wt wh tot h < cs_re wt wh tot k ∨ (cs_re wt wh tot k = cs_re wt wh tot h ∧ k < h) then (1 : Int) else 0) ∧ (if cs_re wt wh tot h < cs_re wt wh tot k ∨ (cs_re wt wh tot k = cs_re wt wh tot h ∧ k < h) then (1 : Int) else 0) ≤ 1
    split <;> omega)
  unfold cs_rk
  omega
theorem cs_pm {wh x t : Int} (h1 : 0 ≤ wh) (h2 : wh ≤ 1000000000) (h3 : 0 ≤ x) (h4 : x ≤ 1000000) (h5 : 0 < t) : 0 ≤ wh * x ∧ wh * x ≤ 1000000000000000 ∧ 0 ≤ wh * x % t ∧ wh * x % t < t ∧ 0 ≤ wh * x / t ∧ wh * x / t ≤ wh * x := by
  have q1 := Int.mul_nonneg h1 h3
  have q2 := Int.mul_le_mul h2 h4 h3 (by omega : (0 : Int) ≤ 1000000000)
  have q3 := Int.emod_nonneg (wh * x) (by omega : t ≠ 0)
  have q4 := Int.emod_lt_of_pos (wh * x) h5
  have q5 := cs_div_b q1 h5
  omega
/-- what is over behind the division, and a share behind the parting -/
def cs_spare (wt : Nat → Int) (wh tot : Int) : Int := wh - cs_sum (cs_qu wt wh tot) 12
def cs_s0 (wt : Nat → Int) (wh tot : Int) (h : Nat) : Int := cs_qu wt wh tot h + (if cs_rk wt wh tot h 12 < cs_spare wt wh tot then 1 else 0)
def op_out (S : cs_S) (i : Nat) : cs_S := cs_u (cs_ss S i (cs_s0 (S 20 i) (S 12 i 0 - S 13 i 0) (cs_sum (S 20 i) 12)) 12) 22 i 0 (S 12 i 0 - S 13 i 0)
theorem cs_ss_u (S : cs_S) (i : Nat) (f : Nat → Int) (h : Nat) : cs_u (cs_ss S i f h) 21 i h (f h) = cs_ss S i f (h + 1) := by
  funext a b c
  simp only [cs_u, cs_ss]
  by_cases h1 : a = 21 ∧ b = i ∧ c = h
  · obtain ⟨rfl, rfl, rfl⟩ := h1
    simp
  · rw [if_neg h1]
    by_cases h2 : a = 21 ∧ b = i ∧ c < h
    · rw [if_pos h2, if_pos ⟨h2.1, h2.2.1, by omega⟩]
    · rw [if_neg h2, if_neg (fun q => h1 ⟨q.1, q.2.1, by have := q.2.2; have h3 : ¬ c < h := fun z => h2 ⟨q.1, q.2.1, z⟩; omega⟩)]
theorem cs_ss_c (S : cs_S) (i : Nat) {f g : Nat → Int} (n : Nat) (h : ∀ j, j < n → f j = g j) : cs_ss S i f n = cs_ss S i g n := by
  funext a b c
  simp only [cs_ss]
  by_cases h2 : a = 21 ∧ b = i ∧ c < n
  · rw [if_pos h2, if_pos h2, h c h2.2.2]
  · rw [if_neg h2, if_neg h2]
theorem cs_ss_s (S : cs_S) (i : Nat) (f : Nat → Int) {n h : Nat} (hh : h < n) (v : Int) : cs_u (cs_ss S i f n) 21 i h v = cs_ss S i (va_up f h v) n := by
  funext a b c
  simp only [cs_u, cs_ss, va_upE]
  by_cases h1 : a = 21 ∧ b = i ∧ c = h
  · obtain ⟨rfl, rfl, rfl⟩ := h1
    simp [hh]
  · rw [if_neg h1]
    by_cases h2 : a = 21 ∧ b = i ∧ c < n
    · rw [if_pos h2, if_pos h2, if_neg (fun q => h1 ⟨h2.1, h2.2.1, q⟩)]
    · rw [if_neg h2, if_neg h2]
theorem wC_21 (u : cx_U) (ad : Nat → Nat → Nat) (T : cs_S) (sc : Nat → Nat → Int) {i : Nat} (hi : (i : Int) < T 0 0 0) (h : Nat) (v : Int) : cx_up (wC u ad T sc) 16 i (ad 16 i, .inl (u.2 1, 12, .inr (.inl (fun z_ => jL (va_up (fun z_ => T 21 i z_) h v z_))))) = wC u ad (cs_u T 21 i h v) sc := by
  funext k j
  match k with
  | 0 => by_cases hz : j = 0 <;> simp [cx_up, wC, cs_u, hz]
  | 1 => by_cases hz : j = 0 <;> simp [cx_up, wC, cs_u, hz]
  | 2 => by_cases hz : j = 0 <;> simp [cx_up, wC, cs_u, hz]
  | 3 => by_cases hz : j = 0 <;> simp [cx_up, wC, cs_u, hz]
  | 4 => by_cases hz : j = 0 <;> simp [cx_up, wC, cs_u, hz]
  | 5 => by_cases hz : j = 0 <;> simp [cx_up, wC, cs_u, hz]
  | 6 => by_cases hz : j = 0 <;> simp [cx_up, wC, cs_u, hz]
  | 7 => by_cases hz : j = 0 <;> simp [cx_up, wC, cs_u, hz]
  | 8 => by_cases hz : j = 0 <;> simp [cx_up, wC, cs_u, hz]
  | 9 => by_cases hz : j = 0 <;> simp [cx_up, wC, cs_u, hz]
  | 10 => by_cases hz : j = 0 <;> simp [cx_up, wC, cs_u, hz]
  | 11 => by_cases hz : j = 0 <;> simp [cx_up, wC, cs_u, hz]
  | 12 => by_cases hz : j = 0 <;> simp [cx_up, wC, cs_u, hz]
  | 13 => by_cases hz : j = 0 <;> simp [cx_up, wC, cs_u, hz]
  | 14 => by_cases hj0 : j = i <;> simp [cx_up, wC, cs_u, va_upE, hi, hj0]
  | 15 => by_cases hj0 : j = i <;> simp [cx_up, wC, cs_u, va_upE, hi, hj0]
  | 16 => by_cases hj0 : j = i <;> simp [cx_up, wC, cs_u, va_upE, hi, hj0]
  | k + 17 => simp [cx_up, wC]
theorem wC_22 (u : cx_U) (ad : Nat → Nat → Nat) (T : cs_S) (sc : Nat → Nat → Int) {i : Nat} (hi : (i : Int) < T 0 0 0) (v : Int) : cx_up (wC u ad T sc) 14 i (ad 14 i, .inr (2, [.int (jI (i : Int)), .long (jL (T 12 i 0)), .ref (ad 15 i), .ref (ad 16 i), .long (jL (T 13 i 0)), .int (jI (T 14 i 0)), .int (jI (T 15 i 0)), .int (jI (T 16 i 0)), .long (jL (T 17 i 0)), .long (jL (T 18 i 0)), .long (jL v)])) = wC u ad (cs_u T 22 i 0 v) sc := by
  funext k j
  match k with
  | 0 => by_cases hz : j = 0 <;> simp [cx_up, wC, cs_u, hz]
  | 1 => by_cases hz : j = 0 <;> simp [cx_up, wC, cs_u, hz]
  | 2 => by_cases hz : j = 0 <;> simp [cx_up, wC, cs_u, hz]
  | 3 => by_cases hz : j = 0 <;> simp [cx_up, wC, cs_u, hz]
  | 4 => by_cases hz : j = 0 <;> simp [cx_up, wC, cs_u, hz]
  | 5 => by_cases hz : j = 0 <;> simp [cx_up, wC, cs_u, hz]
  | 6 => by_cases hz : j = 0 <;> simp [cx_up, wC, cs_u, hz]
  | 7 => by_cases hz : j = 0 <;> simp [cx_up, wC, cs_u, hz]
  | 8 => by_cases hz : j = 0 <;> simp [cx_up, wC, cs_u, hz]
  | 9 => by_cases hz : j = 0 <;> simp [cx_up, wC, cs_u, hz]
  | 10 => by_cases hz : j = 0 <;> simp [cx_up, wC, cs_u, hz]
  | 11 => by_cases hz : j = 0 <;> simp [cx_up, wC, cs_u, hz]
  | 12 => by_cases hz : j = 0 <;> simp [cx_up, wC, cs_u, hz]
  | 13 => by_cases hz : j = 0 <;> simp [cx_up, wC, cs_u, hz]
  | 14 => by_cases hj0 : j = i <;> simp [cx_up, wC, cs_u, hi, hj0]
  | 15 => by_cases hj0 : j = i <;> simp [cx_up, wC, cs_u, hi, hj0]
  | 16 => by_cases hj0 : j = i <;> simp [cx_up, wC, cs_u, hi, hj0]
  | k + 17 => simp [cx_up, wC]
def cs_cnt (f : Nat → Int) : Nat → Int := cs_sum (fun h => if 0 < f h then 1 else 0)
theorem cs_cnt_s (f : Nat → Int) (n : Nat) : cs_cnt f (n + 1) = cs_cnt f n + (if 0 < f n then 1 else 0) := rfl
set_option maxHeartbeats 4000000 in
set_option maxRecDepth 100000 in
theorem c_S_countShares (l : Launch) (u : cx_U) (ad : Nat → Nat → Nat) (S : cs_S) (sc : Nat → Nat → Int) (i : Nat) (hi : (i : Int) < S 0 0 0) (hr2 : ∀ h, 0 ≤ S 21 i h ∧ S 21 i h ≤ 2000000000) : cx_N l u mn_S_countShares bc_S_countShares 3 (some .int) 0 0 [.ref (ad 14 i)] (wC u ad S sc) (.int (jI (cs_cnt (S 21 i) 12))) := by
  refine cx_N.of (by decide +kernel) (Nat.le_of_ble_eq_true rfl) ?_
  intro p e s m args below meth c ls A X hr hlk B hl
  have X : CallFix p m c bc_S_countShares 3 s args GW "CatchShares$Stock" := X
  have hl : lv_has ls 3 [(0, .ref (ad 14 i))] := hl
  refine cx_iconst X dc_S_countShares_0 ?_
  refine lv_istore_n (lv' := [(1, .int (jI (0))), (0, .ref (ad 14 i))]) X.1 X.2.1 dc_S_countShares_1 rfl hl (by decide) rfl (fun ls hl => ?_)
  refine cx_iconst X dc_S_countShares_2 ?_
  refine lv_istore_n (lv' := [(2, .int (jI (0))), (1, .int (jI (0))), (0, .ref (ad 14 i))]) X.1 X.2.1 dc_S_countShares_3 rfl hl (by decide) rfl (fun ls hl => ?_)
  have lp_1 : ∀ (n_2 h : Nat) (ls : Array Slot) , (h : Int) ≤ 12 → 12 - (h : Int) < (n_2 : Int) → lv_has ls 3 [(0, .ref (ad 14 i)), (1, .int (jI (cs_cnt (S 21 i) h))), (2, .int (jI ((h : Int))))] → W p l e (cx_R 0 0 0 0) s m args below meth c s.heap [] 0 0 (MQ below (fun _ st_ oc_ t_ => oc_ = .returned (some (.int (jI (cs_cnt (S 21 i) 12)))) ∧ t_.heap = st_.heap) args s 0 0 (fun _ => False)) (F0 m 4 ls []) := by
    intro n_2
    induction n_2 with
    | zero => intro h ls  hi_4 hn_5; exfalso; omega
    | succ n_2 ih_3 =>
      intro h ls  hi_4 hn_5 hl
      refine lv_iload_n X.1 X.2.1 dc_S_countShares_4 rfl (lv_at hl 2 rfl) ?_
      refine lv_aload_n X.1 X.2.1 dc_S_countShares_5 rfl (lv_at hl 0 rfl) ?_
      refine cx_get (v := .ref (ad 16 i)) X B (wC_14 u ad S sc hi) rfl uw_S 3 (by decide) gf_S_23 rfl dc_S_countShares_6 ?_
      refine cx_alen (n := 12) X B 1 (wC_16 u ad S sc hi) rfl (by show Int32.ofNat 12 = jI 12; decide +kernel) dc_S_countShares_9 ?_
      refine cx_icmp_ge (tgt := 33) X (by omega) (by omega) (by omega) (by omega) dc_S_countShares_10 (by decide) (fun c_6 => ?_) (fun c_6 => ?_)
      · refine lv_iload_n X.1 X.2.1 dc_S_countShares_33 rfl (lv_at hl 1 rfl) ?_
        exact cx_iretN X hr hlk (by rw [show h = 12 by omega]) dc_S_countShares_34
      · refine lv_aload_n X.1 X.2.1 dc_S_countShares_13 rfl (lv_at hl 0 rfl) ?_
        refine cx_get (v := .ref (ad 16 i)) X B (wC_14 u ad S sc hi) rfl uw_S 3 (by decide) gf_S_23 rfl dc_S_countShares_14 ?_
        refine lv_iload_n X.1 X.2.1 dc_S_countShares_17 rfl (lv_at hl 2 rfl) ?_
        refine cx_lald X B (wC_16 u ad S sc hi) (h) (by omega) (by omega) (by decide) dc_S_countShares_18 ?_
        have r_7 := hr2 h
        refine cx_lconst (a := 0) X dc_S_countShares_19 (by decide +kernel) ?_
        refine cx_lcmp_le (tgt := 27) X (by omega) (by omega) (by omega) (by omega) dc_S_countShares_20 dc_S_countShares_21 (by decide) (fun c_8 => ?_) (fun c_8 => ?_)
        · refine lv_iinc (v := jI ((h : Int) + 1)) (lv' := [(2, .int (jI ((h : Int) + 1))), (0, .ref (ad 14 i)), (1, .int (jI (cs_cnt (S 21 i) h)))]) X.1 X.2.1 dc_S_countShares_27 hl (k := 2) rfl (jI_add _ _) (by decide) rfl (fun ls hl => ?_)
          refine lv_goto (tgt := 4) X.1 X.2.1 dc_S_countShares_30 (by decide) ?_
          have qq : cs_cnt (S 21 i) (h + 1) = cs_cnt (S 21 i) h := by rw [cs_cnt_s, if_neg (by omega)]; omega
          exact ih_3 (h + 1) ls  (by omega) (by omega) (by rw [qq]; exact lv_sub hl [1, 2, 0] rfl)
        · refine lv_iinc (v := jI ((cs_cnt (S 21 i) h) + 1)) (lv' := [(1, .int (jI ((cs_cnt (S 21 i) h) + 1))), (0, .ref (ad 14 i)), (2, .int (jI ((h : Int))))]) X.1 X.2.1 dc_S_countShares_24 hl (k := 1) rfl (jI_add _ _) (by decide) rfl (fun ls hl => ?_)
          refine lv_iinc (v := jI ((h : Int) + 1)) (lv' := [(2, .int (jI ((h : Int) + 1))), (1, .int (jI ((cs_cnt (S 21 i) h) + 1))), (0, .ref (ad 14 i))]) X.1 X.2.1 dc_S_countShares_27 hl (k := 2) rfl (jI_add _ _) (by decide) rfl (fun ls hl => ?_)
          refine lv_goto (tgt := 4) X.1 X.2.1 dc_S_countShares_30 (by decide) ?_
          have qq : cs_cnt (S 21 i) (h + 1) = (cs_cnt (S 21 i) h) + 1 := by rw [cs_cnt_s, if_pos (by omega)]
          exact ih_3 (h + 1) ls  (by omega) (by omega) (by rw [qq]; exact lv_sub hl [2, 1, 0] rfl)
  exact lp_1 ((12 : Int).toNat + 1) 0 ls  (by omega) (by omega) (by  exact lv_sub hl [2, 1, 0] rfl)
set_option maxHeartbeats 4000000 in
set_option maxRecDepth 100000 in
theorem c_S_restOf (l : Launch) (u : cx_U) (ad : Nat → Nat → Nat) (S : cs_S) (sc : Nat → Nat → Int) (i h : Nat) (hi : (i : Int) < S 0 0 0) (hh : h < 12) (hw : ∀ k, 0 ≤ S 20 i k ∧ S 20 i k ≤ 1000000) (wh tot : Int) (w1 : 0 ≤ wh) (w2 : wh ≤ 1000000000) (t1 : 0 < tot) (t2 : tot ≤ 12000000) : cx_N l u mn_S_restOf bc_S_restOf 6 (some .long) 0 0 [.ref (ad 14 i), .int (jI ((h : Int))), .long (jL (wh)), .long (jL (tot))] (wC u ad S sc) (.long (jL (wh * S 20 i h % tot))) := by
  refine cx_N.of (by decide +kernel) (Nat.le_of_ble_eq_true rfl) ?_
  intro p e s m args below meth c ls A X hr hlk B hl
  have X : CallFix p m c bc_S_restOf 6 s args GW "CatchShares$Stock" := X
  have hl : lv_has ls 6 [(0, .ref (ad 14 i)), (1, .int (jI ((h : Int)))), (2, .long (jL (wh))), (4, .long (jL (tot)))] := hl
  have hph := cs_pm w1 w2 (hw h).1 (hw h).2 t1
  refine lv_lload X.1 X.2.1 dc_S_restOf_0 (lv_at hl 3 rfl) ?_
  refine cx_lconst (a := 1) X dc_S_restOf_2 (by decide +kernel) ?_
  refine cx_lcmp_ge (tgt := 11) X (by omega) (by omega) (by omega) (by omega) dc_S_restOf_3 dc_S_restOf_4 (by decide) (fun c_1 => ?_) (fun c_1 => by exfalso; omega)
  refine lv_lload_n X.1 X.2.1 dc_S_restOf_11 rfl (lv_at hl 2 rfl) ?_
  refine lv_aload_n X.1 X.2.1 dc_S_restOf_12 rfl (lv_at hl 0 rfl) ?_
  refine cx_get (v := .ref (ad 15 i)) X B (wC_14 u ad S sc hi) rfl uw_S 2 (by decide) gf_S_19 rfl dc_S_restOf_13 ?_
  refine lv_iload_n X.1 X.2.1 dc_S_restOf_16 rfl (lv_at hl 1 rfl) ?_
  refine cx_lald X B (wC_15 u ad S sc hi) (h) (by omega) (by omega) (by decide) dc_S_restOf_17 ?_
  refine cx_lmul X dc_S_restOf_18 ?_
  refine lv_lload X.1 X.2.1 dc_S_restOf_19 (lv_at hl 3 rfl) ?_
  refine cx_lrem X (by omega) (by omega) (by omega) (by omega) dc_S_restOf_21 ?_
  exact cx_lretN X hr hlk (rfl) dc_S_restOf_22
set_option maxHeartbeats 4000000 in
set_option maxRecDepth 100000 in
theorem c_S_rankByRest (l : Launch) (u : cx_U) (ad : Nat → Nat → Nat) (S : cs_S) (sc : Nat → Nat → Int) (i h : Nat) (hi : (i : Int) < S 0 0 0) (hh : h < 12) (hw : ∀ k, 0 ≤ S 20 i k ∧ S 20 i k ≤ 1000000) (wh tot : Int) (w1 : 0 ≤ wh) (w2 : wh ≤ 1000000000) (t1 : 0 < tot) (t2 : tot ≤ 12000000) : cx_N l u mn_S_rankByRest bc_S_rankByRest 12 (some .int) 1 25 [.ref (ad 14 i), .int (jI ((h : Int))), .long (jL (wh)), .long (jL (tot))] (wC u ad S sc) (.int (jI (cs_rk (S 20 i) wh tot h 12))) := by
  refine cx_N.of (by decide +kernel) (Nat.le_of_ble_eq_true rfl) ?_
  intro p e s m args below meth c ls A X hr hlk B hl
  have X : CallFix p m c bc_S_rankByRest 12 s args GW "CatchShares$Stock" := X
  have hl : lv_has ls 12 [(0, .ref (ad 14 i)), (1, .int (jI ((h : Int)))), (2, .long (jL (wh))), (4, .long (jL (tot)))] := hl
  have hph := cs_pm w1 w2 (hw h).1 (hw h).2 t1
  have er : cs_re (S 20 i) wh tot h = wh * S 20 i h % tot := rfl
  refine lv_aload_n X.1 X.2.1 dc_S_rankByRest_0 rfl (lv_at hl 0 rfl) ?_
  refine lv_iload_n X.1 X.2.1 dc_S_rankByRest_1 rfl (lv_at hl 1 rfl) ?_
  refine lv_lload_n X.1 X.2.1 dc_S_rankByRest_2 rfl (lv_at hl 2 rfl) ?_
  refine lv_lload X.1 X.2.1 dc_S_rankByRest_3 (lv_at hl 3 rfl) ?_
  refine cx_cVN (r := .long (jL (wh * S 20 i h % tot))) (As := [.int (jI ((h : Int))), .long (jL (wh)), .long (jL (tot))]) (rest := []) X B kc_S_restOf gm_S_50 (c_S_restOf l u ad S sc i h hi (by omega) hw wh tot w1 w2 t1 t2) (fun _ _ _ h => h) (wC_14 u ad S sc hi) rfl rfl ⟨(Nat.le_of_ble_eq_true rfl), (Nat.le_of_ble_eq_true rfl)⟩ ⟨(Nat.le_of_ble_eq_true rfl), (Nat.le_of_ble_eq_true rfl)⟩ rfl hl.1 (Nat.le_of_ble_eq_true rfl) dc_S_rankByRest_5 rfl ?_
  refine lv_lstore (lv' := [(6, .long (jL (wh * S 20 i h % tot))), (0, .ref (ad 14 i)), (1, .int (jI ((h : Int)))), (2, .long (jL (wh))), (4, .long (jL (tot)))]) X.1 X.2.1 dc_S_rankByRest_8 hl (by decide) rfl (fun ls hl => ?_)
  refine cx_iconst X dc_S_rankByRest_10 ?_
  refine lv_istore (lv' := [(8, .int (jI (0))), (6, .long (jL (wh * S 20 i h % tot))), (0, .ref (ad 14 i)), (1, .int (jI ((h : Int)))), (2, .long (jL (wh))), (4, .long (jL (tot)))]) X.1 X.2.1 dc_S_rankByRest_11 hl (by decide) rfl (fun ls hl => ?_)
  refine cx_iconst X dc_S_rankByRest_13 ?_
  refine lv_istore (lv' := [(9, .int (jI (0))), (8, .int (jI (0))), (6, .long (jL (wh * S 20 i h % tot))), (0, .ref (ad 14 i)), (1, .int (jI ((h : Int)))), (2, .long (jL (wh))), (4, .long (jL (tot)))]) X.1 X.2.1 dc_S_rankByRest_14 hl (by decide) rfl (fun ls hl => ?_)
  have lp_1 : ∀ (n_2 k : Nat) (ls : Array Slot) , (k : Int) ≤ 12 → 12 - (k : Int) < (n_2 : Int) → lv_has ls 12 [(0, .ref (ad 14 i)), (1, .int (jI ((h : Int)))), (2, .long (jL (wh))), (4, .long (jL (tot))), (6, .long (jL (wh * S 20 i h % tot))), (8, .int (jI (cs_rk (S 20 i) wh tot h k))), (9, .int (jI ((k : Int))))] → W p l e (cx_R 1 25 0 0) s m args below meth c s.heap [] 0 0 (MQ below (fun _ st_ oc_ t_ => oc_ = .returned (some (.int (jI (cs_rk (S 20 i) wh tot h 12)))) ∧ t_.heap = st_.heap) args s 0 0 (fun _ => False)) (F0 m 16 ls []) := by
    intro n_2
    induction n_2 with
    | zero => intro k ls  hi_4 hn_5; exfalso; omega
    | succ n_2 ih_3 =>
      intro k ls  hi_4 hn_5 hl
      have hpk := cs_pm w1 w2 (hw k).1 (hw k).2 t1
      have ek : cs_re (S 20 i) wh tot k = wh * S 20 i k % tot := rfl
      refine lv_iload X.1 X.2.1 dc_S_rankByRest_16 (lv_at hl 6 rfl) ?_
      refine lv_aload_n X.1 X.2.1 dc_S_rankByRest_18 rfl (lv_at hl 0 rfl) ?_
      refine cx_get (v := .ref (ad 15 i)) X B (wC_14 u ad S sc hi) rfl uw_S 2 (by decide) gf_S_19 rfl dc_S_rankByRest_19 ?_
      refine cx_alen (n := 12) X B 1 (wC_15 u ad S sc hi) rfl (by show Int32.ofNat 12 = jI 12; decide +kernel) dc_S_rankByRest_22 ?_
      refine cx_icmp_ge (tgt := 68) X (by omega) (by omega) (by omega) (by omega) dc_S_rankByRest_23 (by decide) (fun c_6 => ?_) (fun c_6 => ?_)
      · refine lv_iload X.1 X.2.1 dc_S_rankByRest_68 (lv_at hl 5 rfl) ?_
        exact cx_iretN X hr hlk (by rw [show k = 12 by omega]) dc_S_rankByRest_70
      · refine lv_aload_n X.1 X.2.1 dc_S_rankByRest_26 rfl (lv_at hl 0 rfl) ?_
        refine lv_iload X.1 X.2.1 dc_S_rankByRest_27 (lv_at hl 6 rfl) ?_
        refine lv_lload_n X.1 X.2.1 dc_S_rankByRest_29 rfl (lv_at hl 2 rfl) ?_
        refine lv_lload X.1 X.2.1 dc_S_rankByRest_30 (lv_at hl 3 rfl) ?_
        refine cx_cVN (r := .long (jL (wh * S 20 i k % tot))) (As := [.int (jI ((k : Int))), .long (jL (wh)), .long (jL (tot))]) (rest := []) X B kc_S_restOf gm_S_50 (c_S_restOf l u ad S sc i k hi (by omega) hw wh tot w1 w2 t1 t2) (fun _ _ _ h => h) (wC_14 u ad S sc hi) rfl rfl ⟨(Nat.le_of_ble_eq_true rfl), (Nat.le_of_ble_eq_true rfl)⟩ ⟨(Nat.le_of_ble_eq_true rfl), (Nat.le_of_ble_eq_true rfl)⟩ rfl hl.1 (Nat.le_of_ble_eq_true rfl) dc_S_rankByRest_32 rfl ?_
        refine lv_lstore (lv' := [(10, .long (jL (wh * S 20 i k % tot))), (0, .ref (ad 14 i)), (1, .int (jI ((h : Int)))), (2, .long (jL (wh))), (4, .long (jL (tot))), (6, .long (jL (wh * S 20 i h % tot))), (8, .int (jI (cs_rk (S 20 i) wh tot h k))), (9, .int (jI ((k : Int))))]) X.1 X.2.1 dc_S_rankByRest_35 hl (by decide) rfl (fun ls hl => ?_)
        refine lv_lload X.1 X.2.1 dc_S_rankByRest_37 (lv_at hl 0 rfl) ?_
        refine lv_lload X.1 X.2.1 dc_S_rankByRest_39 (lv_at hl 5 rfl) ?_
        refine cx_lcmp_gt (tgt := 59) X (by omega) (by omega) (by omega) (by omega) dc_S_rankByRest_41 dc_S_rankByRest_42 (by decide) (fun c_7 => ?_) (fun c_7 => ?_)
        · refine lv_iinc (v := jI ((cs_rk (S 20 i) wh tot h k) + 1)) (lv' := [(8, .int (jI ((cs_rk (S 20 i) wh tot h k) + 1))), (10, .long (jL (wh * S 20 i k % tot))), (0, .ref (ad 14 i)), (1, .int (jI ((h : Int)))), (2, .long (jL (wh))), (4, .long (jL (tot))), (6, .long (jL (wh * S 20 i h % tot))), (9, .int (jI ((k : Int))))]) X.1 X.2.1 dc_S_rankByRest_59 hl (k := 6) rfl (jI_add _ _) (by decide) rfl (fun ls hl => ?_)
          refine lv_iinc (v := jI ((k : Int) + 1)) (lv' := [(9, .int (jI ((k : Int) + 1))), (8, .int (jI ((cs_rk (S 20 i) wh tot h k) + 1))), (10, .long (jL (wh * S 20 i k % tot))), (0, .ref (ad 14 i)), (1, .int (jI ((h : Int)))), (2, .long (jL (wh))), (4, .long (jL (tot))), (6, .long (jL (wh * S 20 i h % tot)))]) X.1 X.2.1 dc_S_rankByRest_62 hl (k := 7) rfl (jI_add _ _) (by decide) rfl (fun ls hl => ?_)
          refine lv_goto (tgt := 16) X.1 X.2.1 dc_S_rankByRest_65 (by decide) ?_
          have qq : cs_rk (S 20 i) wh tot h (k + 1) = (cs_rk (S 20 i) wh tot h k) + 1 := by rw [cs_rk_s, if_pos (by rw [er, ek]; omega)]
          exact ih_3 (k + 1) ls  (by omega) (by omega) (by rw [qq]; exact lv_sub hl [3, 4, 5, 6, 7, 1, 0] rfl)
        · refine lv_lload X.1 X.2.1 dc_S_rankByRest_45 (lv_at hl 0 rfl) ?_
          refine lv_lload X.1 X.2.1 dc_S_rankByRest_47 (lv_at hl 5 rfl) ?_
          refine cx_lcmp_ne (tgt := 62) X (by omega) (by omega) (by omega) (by omega) dc_S_rankByRest_49 dc_S_rankByRest_50 (by decide) (fun c_8 => ?_) (fun c_8 => ?_)
          · refine lv_iinc (v := jI ((k : Int) + 1)) (lv' := [(9, .int (jI ((k : Int) + 1))), (10, .long (jL (wh * S 20 i k % tot))), (0, .ref (ad 14 i)), (1, .int (jI ((h : Int)))), (2, .long (jL (wh))), (4, .long (jL (tot))), (6, .long (jL (wh * S 20 i h % tot))), (8, .int (jI (cs_rk (S 20 i) wh tot h k)))]) X.1 X.2.1 dc_S_rankByRest_62 hl (k := 7) rfl (jI_add _ _) (by decide) rfl (fun ls hl => ?_)
            refine lv_goto (tgt := 16) X.1 X.2.1 dc_S_rankByRest_65 (by decide) ?_
            have qq : cs_rk (S 20 i) wh tot h (k + 1) = cs_rk (S 20 i) wh tot h k := by rw [cs_rk_s, if_neg (by rw [er, ek]; omega)]; omega
            exact ih_3 (k + 1) ls  (by omega) (by omega) (by rw [qq]; exact lv_sub hl [2, 3, 4, 5, 6, 7, 0] rfl)
          · refine lv_iload X.1 X.2.1 dc_S_rankByRest_53 (lv_at hl 7 rfl) ?_
            refine lv_iload_n X.1 X.2.1 dc_S_rankByRest_55 rfl (lv_at hl 2 rfl) ?_
            refine cx_icmp_ge (tgt := 62) X (by omega) (by omega) (by omega) (by omega) dc_S_rankByRest_56 (by decide) (fun c_9 => ?_) (fun c_9 => ?_)
            · refine lv_iinc (v := jI ((k : Int) + 1)) (lv' := [(9, .int (jI ((k : Int) + 1))), (10, .long (jL (wh * S 20 i k % tot))), (0, .ref (ad 14 i)), (1, .int (jI ((h : Int)))), (2, .long (jL (wh))), (4, .long (jL (tot))), (6, .long (jL (wh * S 20 i h % tot))), (8, .int (jI (cs_rk (S 20 i) wh tot h k)))]) X.1 X.2.1 dc_S_rankByRest_62 hl (k := 7) rfl (jI_add _ _) (by decide) rfl (fun ls hl => ?_)
              refine lv_goto (tgt := 16) X.1 X.2.1 dc_S_rankByRest_65 (by decide) ?_
              have qq : cs_rk (S 20 i) wh tot h (k + 1) = cs_rk (S 20 i) wh tot h k := by rw [cs_rk_s, if_neg (by rw [er, ek]; omega)]; omega
              exact ih_3 (k + 1) ls  (by omega) (by omega) (by rw [qq]; exact lv_sub hl [2, 3, 4, 5, 6, 7, 0] rfl)
            · refine lv_iinc (v := jI ((cs_rk (S 20 i) wh tot h k) + 1)) (lv' := [(8, .int (jI ((cs_rk (S 20 i) wh tot h k) + 1))), (10, .long (jL (wh * S 20 i k % tot))), (0, .ref (ad 14 i)), (1, .int (jI ((h : Int)))), (2, .long (jL (wh))), (4, .long (jL (tot))), (6, .long (jL (wh * S 20 i h % tot))), (9, .int (jI ((k : Int))))]) X.1 X.2.1 dc_S_rankByRest_59 hl (k := 6) rfl (jI_add _ _) (by decide) rfl (fun ls hl => ?_)
              refine lv_iinc (v := jI ((k : Int) + 1)) (lv' := [(9, .int (jI ((k : Int) + 1))), (8, .int (jI ((cs_rk (S 20 i) wh tot h k) + 1))), (10, .long (jL (wh * S 20 i k % tot))), (0, .ref (ad 14 i)), (1, .int (jI ((h : Int)))), (2, .long (jL (wh))), (4, .long (jL (tot))), (6, .long (jL (wh * S 20 i h % tot)))]) X.1 X.2.1 dc_S_rankByRest_62 hl (k := 7) rfl (jI_add _ _) (by decide) rfl (fun ls hl => ?_)
              refine lv_goto (tgt := 16) X.1 X.2.1 dc_S_rankByRest_65 (by decide) ?_
              have qq : cs_rk (S 20 i) wh tot h (k + 1) = (cs_rk (S 20 i) wh tot h k) + 1 := by rw [cs_rk_s, if_pos (by rw [er, ek]; omega)]
              exact ih_3 (k + 1) ls  (by omega) (by omega) (by rw [qq]; exact lv_sub hl [3, 4, 5, 6, 7, 1, 0] rfl)
  exact lp_1 ((12 : Int).toNat + 1) 0 ls  (by omega) (by omega) (by  exact lv_sub hl [3, 4, 5, 6, 2, 1, 0] rfl)
def cs_mix (wt : Nat → Int) (wh tot : Int) (n : Nat) (j : Nat) : Int := if j < n then cs_s0 wt wh tot j else cs_qu wt wh tot j
set_option maxHeartbeats 4000000 in
set_option maxRecDepth 100000 in
theorem c_S_shareOut (l : Launch) (u : cx_U) (sz : Nat) (ad : Nat → Nat → Nat) (S : cs_S) (sc : Nat → Nat → Int) (hI : cs_I S) (i : Nat) (hi : (i : Int) < S 0 0 0) : cx_M l u mn_S_shareOut bc_S_shareOut 8 (some .boolean) 2 56 [.ref (ad 14 i)] (wC u ad S sc) sz (some (.int (jI (jB (1 ≤ cs_sum (S 20 i) 12))))) (fun w' => w' = wC u ad (if 1 ≤ cs_sum (S 20 i) 12 then op_out S i else S) sc) 0 0 := by
  refine cx_M.of (by decide +kernel) (Nat.le_of_ble_eq_true rfl) ?_
  intro p e s m args below meth c ls hsz X hr hlk hin B hl
  have X : CallFix p m c bc_S_shareOut 8 s args GW "CatchShares$Stock" := X
  have hl : lv_has ls 8 [(0, .ref (ad 14 i))] := hl
  have hI5 := hI.2.2.2.2.1 i
  have hws := cs_ws_b hI i
  have hw : ∀ k, 0 ≤ S 20 i k ∧ S 20 i k ≤ 1000000 := fun k => by have := hI.2.2.2.2.2.1 i k; omega
  have hqb : 1 ≤ cs_sum (S 20 i) 12 → ∀ k, 0 ≤ cs_qu (S 20 i) (S 12 i 0 - S 13 i 0) (cs_sum (S 20 i) 12) k ∧ cs_qu (S 20 i) (S 12 i 0 - S 13 i 0) (cs_sum (S 20 i) 12) k ≤ 1000000000000000 := fun h1 k => by
    have := cs_pm (wh := (S 12 i 0 - S 13 i 0)) (t := (cs_sum (S 20 i) 12)) (by omega) (by omega) (hw k).1 (hw k).2 (by omega)
    unfold cs_qu; omega
  refine lv_aload_n X.1 X.2.1 dc_S_shareOut_0 rfl (lv_at hl 0 rfl) ?_
  refine cx_cVN (r := .long (jL (cs_sum (S 20 i) 12))) (As := []) (rest := []) X B kc_S_allWeights gm_S_36 (c_S_allWeights l u ad S sc hI i hi) (fun _ _ _ h => h) (wC_14 u ad S sc hi) rfl rfl ⟨(Nat.le_of_ble_eq_true rfl), (Nat.le_of_ble_eq_true rfl)⟩ ⟨(Nat.le_of_ble_eq_true rfl), (Nat.le_of_ble_eq_true rfl)⟩ rfl hl.1 (Nat.le_of_ble_eq_true rfl) dc_S_shareOut_1 rfl ?_
  refine lv_lstore_n (lv' := [(1, .long (jL (cs_sum (S 20 i) 12))), (0, .ref (ad 14 i))]) X.1 X.2.1 dc_S_shareOut_4 rfl hl (by decide) rfl (fun ls hl => ?_)
  refine lv_lload_n X.1 X.2.1 dc_S_shareOut_5 rfl (lv_at hl 0 rfl) ?_
  refine cx_lconst (a := 1) X dc_S_shareOut_6 (by decide +kernel) ?_
  refine cx_lcmp_ge (tgt := 13) X (by omega) (by omega) (by omega) (by omega) dc_S_shareOut_7 dc_S_shareOut_8 (by decide) (fun c_1 => ?_) (fun c_1 => ?_)
  · refine lv_aload_n X.1 X.2.1 dc_S_shareOut_13 rfl (lv_at hl 1 rfl) ?_
    refine cx_get (v := .long (jL (S 12 i 0))) X B (wC_14 u ad S sc hi) rfl uw_S 1 (by decide) gf_S_15 rfl dc_S_shareOut_14 ?_
    refine lv_aload_n X.1 X.2.1 dc_S_shareOut_17 rfl (lv_at hl 1 rfl) ?_
    refine cx_get (v := .long (jL (S 13 i 0))) X B (wC_14 u ad S sc hi) rfl uw_S 4 (by decide) gf_S_40 rfl dc_S_shareOut_18 ?_
    refine cx_lsub X dc_S_shareOut_21 ?_
    refine lv_lstore_n (lv' := [(3, .long (jL ((S 12 i 0) - (S 13 i 0)))), (1, .long (jL (cs_sum (S 20 i) 12))), (0, .ref (ad 14 i))]) X.1 X.2.1 dc_S_shareOut_22 rfl hl (by decide) rfl (fun ls hl => ?_)
    refine lv_lload_n X.1 X.2.1 dc_S_shareOut_23 rfl (lv_at hl 0 rfl) ?_
    refine lv_lstore (lv' := [(5, .long (jL ((S 12 i 0) - (S 13 i 0)))), (3, .long (jL ((S 12 i 0) - (S 13 i 0)))), (1, .long (jL (cs_sum (S 20 i) 12))), (0, .ref (ad 14 i))]) X.1 X.2.1 dc_S_shareOut_24 hl (by decide) rfl (fun ls hl => ?_)
    refine cx_iconst X dc_S_shareOut_26 ?_
    refine lv_istore (lv' := [(7, .int (jI (0))), (5, .long (jL ((S 12 i 0) - (S 13 i 0)))), (3, .long (jL ((S 12 i 0) - (S 13 i 0)))), (1, .long (jL (cs_sum (S 20 i) 12))), (0, .ref (ad 14 i))]) X.1 X.2.1 dc_S_shareOut_27 hl (by decide) rfl (fun ls hl => ?_)
    have e0 : cs_ss S i (cs_qu (S 20 i) (S 12 i 0 - S 13 i 0) (cs_sum (S 20 i) 12)) 0 = S := by funext a b c; simp [cs_ss]
    have B : cx_B u (cx_A (wC u ad S sc) sz) (wC u ad (cs_ss S i (cs_qu (S 20 i) (S 12 i 0 - S 13 i 0) (cs_sum (S 20 i) 12)) 0) sc) s s.heap [] := by rw [e0]; exact B
    have htot : 1 ≤ cs_sum (S 20 i) 12 := by omega
    have lp_2 : ∀ (n_3 h : Nat) (ls : Array Slot) (H : Heap) (locs : List Loc) , (h : Int) ≤ 12 → 12 - (h : Int) < (n_3 : Int) → cx_B u (cx_A (wC u ad S sc) sz) (wC u ad (cs_ss S i (cs_qu (S 20 i) (S 12 i 0 - S 13 i 0) (cs_sum (S 20 i) 12)) h) sc) s H locs → lv_has ls 8 [(0, .ref (ad 14 i)), (1, .long (jL (cs_sum (S 20 i) 12))), (3, .long (jL (S 12 i 0 - S 13 i 0))), (5, .long (jL (S 12 i 0 - S 13 i 0 - cs_sum (cs_qu (S 20 i) (S 12 i 0 - S 13 i 0) (cs_sum (S 20 i) 12)) h))), (7, .int (jI ((h : Int))))] → W p l e (cx_R 2 56 0 0) s m args below meth c H locs 0 0 (MQ below (cx_Q u (wC u ad S sc) sz (some (.int (jI (jB (1 ≤ cs_sum (S 20 i) 12))))) (fun w' => w' = wC u ad (if 1 ≤ cs_sum (S 20 i) 12 then op_out S i else S) sc)) args s 0 0 (cx_A (wC u ad S sc) sz)) (F0 m 29 ls []) := by
      intro n_3
      induction n_3 with
      | zero => intro h ls H locs  hi_5 hn_6; exfalso; omega
      | succ n_3 ih_4 =>
        intro h ls H locs  hi_5 hn_6 B hl
        have hph := cs_pm (wh := (S 12 i 0 - S 13 i 0)) (t := (cs_sum (S 20 i) 12)) (by omega) (by omega) (hw h).1 (hw h).2 (by omega)
        refine lv_iload X.1 X.2.1 dc_S_shareOut_29 (lv_at hl 4 rfl) ?_
        refine lv_aload_n X.1 X.2.1 dc_S_shareOut_31 rfl (lv_at hl 0 rfl) ?_
        refine cx_get (v := .ref (ad 16 i)) X B (wC_14 u ad (cs_ss S i (cs_qu (S 20 i) (S 12 i 0 - S 13 i 0) (cs_sum (S 20 i) 12)) h) sc hi) rfl uw_S 3 (by decide) gf_S_23 rfl dc_S_shareOut_32 ?_
        refine cx_alen (n := 12) X B 1 (wC_16 u ad (cs_ss S i (cs_qu (S 20 i) (S 12 i 0 - S 13 i 0) (cs_sum (S 20 i) 12)) h) sc hi) rfl (by show Int32.ofNat 12 = jI 12; decide +kernel) dc_S_shareOut_35 ?_
        refine cx_icmp_ge (tgt := 75) X (by omega) (by omega) (by omega) (by omega) dc_S_shareOut_36 (by decide) (fun c_7 => ?_) (fun c_7 => ?_)
        · refine cx_iconst X dc_S_shareOut_75 ?_
          refine lv_istore (lv' := [(7, .int (jI (0))), (0, .ref (ad 14 i)), (1, .long (jL (cs_sum (S 20 i) 12))), (3, .long (jL (S 12 i 0 - S 13 i 0))), (5, .long (jL (S 12 i 0 - S 13 i 0 - cs_sum (cs_qu (S 20 i) (S 12 i 0 - S 13 i 0) (cs_sum (S 20 i) 12)) h)))]) X.1 X.2.1 dc_S_shareOut_76 hl (by decide) rfl (fun ls hl => ?_)
          have hh12 : h = 12 := by omega
          subst hh12
          have hspb := cs_sum_b (f := cs_qu (S 20 i) (S 12 i 0 - S 13 i 0) (cs_sum (S 20 i) 12)) (a := 0) (b := 1000000000000000) (n := 12) (fun k _ => hqb htot k)
          have e1 : cs_ss S i (cs_mix (S 20 i) (S 12 i 0 - S 13 i 0) (cs_sum (S 20 i) 12) 0) 12 = cs_ss S i (cs_qu (S 20 i) (S 12 i 0 - S 13 i 0) (cs_sum (S 20 i) 12)) 12 := cs_ss_c S i 12 (fun j _ => by simp [cs_mix])
          have B : cx_B u (cx_A (wC u ad S sc) sz) (wC u ad (cs_ss S i (cs_mix (S 20 i) (S 12 i 0 - S 13 i 0) (cs_sum (S 20 i) 12) 0) 12) sc) s H locs := by rw [e1]; exact B
          have lp_8 : ∀ (n_9 h : Nat) (ls : Array Slot) (H : Heap) (locs : List Loc) , (h : Int) ≤ 12 → 12 - (h : Int) < (n_9 : Int) → cx_B u (cx_A (wC u ad S sc) sz) (wC u ad (cs_ss S i (cs_mix (S 20 i) (S 12 i 0 - S 13 i 0) (cs_sum (S 20 i) 12) h) 12) sc) s H locs → lv_has ls 8 [(0, .ref (ad 14 i)), (1, .long (jL (cs_sum (S 20 i) 12))), (3, .long (jL (S 12 i 0 - S 13 i 0))), (5, .long (jL (S 12 i 0 - S 13 i 0 - cs_sum (cs_qu (S 20 i) (S 12 i 0 - S 13 i 0) (cs_sum (S 20 i) 12)) 12))), (7, .int (jI ((h : Int))))] → W p l e (cx_R 2 56 0 0) s m args below meth c H locs 0 0 (MQ below (cx_Q u (wC u ad S sc) sz (some (.int (jI (jB (1 ≤ cs_sum (S 20 i) 12))))) (fun w' => w' = wC u ad (if 1 ≤ cs_sum (S 20 i) 12 then op_out S i else S) sc)) args s 0 0 (cx_A (wC u ad S sc) sz)) (F0 m 78 ls []) := by
            intro n_9
            induction n_9 with
            | zero => intro h ls H locs  hi_11 hn_12; exfalso; omega
            | succ n_9 ih_10 =>
              intro h ls H locs  hi_11 hn_12 B hl
              refine lv_iload X.1 X.2.1 dc_S_shareOut_78 (lv_at hl 4 rfl) ?_
              refine lv_aload_n X.1 X.2.1 dc_S_shareOut_80 rfl (lv_at hl 0 rfl) ?_
              refine cx_get (v := .ref (ad 16 i)) X B (wC_14 u ad (cs_ss S i (cs_mix (S 20 i) (S 12 i 0 - S 13 i 0) (cs_sum (S 20 i) 12) h) 12) sc hi) rfl uw_S 3 (by decide) gf_S_23 rfl dc_S_shareOut_81 ?_
              refine cx_alen (n := 12) X B 1 (wC_16 u ad (cs_ss S i (cs_mix (S 20 i) (S 12 i 0 - S 13 i 0) (cs_sum (S 20 i) 12) h) 12) sc hi) rfl (by show Int32.ofNat 12 = jI 12; decide +kernel) dc_S_shareOut_84 ?_
              refine cx_icmp_ge (tgt := 120) X (by omega) (by omega) (by omega) (by omega) dc_S_shareOut_85 (by decide) (fun c_13 => ?_) (fun c_13 => ?_)
              · refine lv_aload_n X.1 X.2.1 dc_S_shareOut_120 rfl (lv_at hl 0 rfl) ?_
                refine lv_lload_n X.1 X.2.1 dc_S_shareOut_121 rfl (lv_at hl 2 rfl) ?_
                refine cx_put (v := .long (jL (S 12 i 0 - S 13 i 0))) X B (wC_14 u ad (cs_ss S i (cs_mix (S 20 i) (S 12 i 0 - S 13 i 0) (cs_sum (S 20 i) 12) h) 12) sc hi) rfl uw_S ft_S fo_S fn_S 10 (by decide) gf_S_47 rfl (fo_S 10 (by decide)) rfl rfl (Nat.le_of_ble_eq_true rfl) dc_S_shareOut_122 (fun H locs B => ?_)
                have B : cx_B u (cx_A (wC u ad S sc) sz) (cx_up (wC u ad (cs_ss S i (cs_mix (S 20 i) (S 12 i 0 - S 13 i 0) (cs_sum (S 20 i) 12) h) 12) sc) 14 i (ad 14 i, .inr (2, [.int (jI ((i : Int))), .long (jL (S 12 i 0)), .ref (ad 15 i), .ref (ad 16 i), .long (jL (S 13 i 0)), .int (jI (S 14 i 0)), .int (jI (S 15 i 0)), .int (jI (S 16 i 0)), .long (jL (S 17 i 0)), .long (jL (S 18 i 0)), .long (jL (S 12 i 0 - S 13 i 0))]))) s H locs := B
                refine cx_iconst X dc_S_shareOut_125 ?_
                have hh12 : h = 12 := by omega
                subst hh12
                have hG : cx_up (wC u ad (cs_ss S i (cs_mix (S 20 i) (S 12 i 0 - S 13 i 0) (cs_sum (S 20 i) 12) 12) 12) sc) 14 i (ad 14 i, .inr (2, [.int (jI ((i : Int))), .long (jL (S 12 i 0)), .ref (ad 15 i), .ref (ad 16 i), .long (jL (S 13 i 0)), .int (jI (S 14 i 0)), .int (jI (S 15 i 0)), .int (jI (S 16 i 0)), .long (jL (S 17 i 0)), .long (jL (S 18 i 0)), .long (jL (S 12 i 0 - S 13 i 0))])) = wC u ad (if 1 ≤ cs_sum (S 20 i) 12 then op_out S i else S) sc := by
                  rw [if_pos htot, op_out]
                  have e3 : cs_ss S i (cs_mix (S 20 i) (S 12 i 0 - S 13 i 0) (cs_sum (S 20 i) 12) 12) 12 = cs_ss S i (cs_s0 (S 20 i) (S 12 i 0 - S 13 i 0) (cs_sum (S 20 i) 12)) 12 := cs_ss_c S i 12 (fun j hj => by simp [cs_mix, hj])
                  rw [← e3]
                  exact wC_22 u ad (cs_ss S i (cs_mix (S 20 i) (S 12 i 0 - S 13 i 0) (cs_sum (S 20 i) 12) 12) 12) sc hi (S 12 i 0 - S 13 i 0)
                exact cx_zretM X B hsz hr hlk (Nat.le_of_ble_eq_true rfl) (Nat.le_of_ble_eq_true rfl) (by omega) (by omega) (by rw [jB_t htot]) hG dc_S_shareOut_126
              · refine lv_aload_n X.1 X.2.1 dc_S_shareOut_88 rfl (lv_at hl 0 rfl) ?_
                refine lv_iload X.1 X.2.1 dc_S_shareOut_89 (lv_at hl 4 rfl) ?_
                refine lv_lload_n X.1 X.2.1 dc_S_shareOut_91 rfl (lv_at hl 2 rfl) ?_
                refine lv_lload_n X.1 X.2.1 dc_S_shareOut_92 rfl (lv_at hl 1 rfl) ?_
                refine cx_cVN (r := .int (jI (cs_rk (S 20 i) (S 12 i 0 - S 13 i 0) (cs_sum (S 20 i) 12) h 12))) (As := [.int (jI ((h : Int))), .long (jL (S 12 i 0 - S 13 i 0)), .long (jL (cs_sum (S 20 i) 12))]) (rest := []) X B kc_S_rankByRest gm_S_43 (c_S_rankByRest l u ad (cs_ss S i (cs_mix (S 20 i) (S 12 i 0 - S 13 i 0) (cs_sum (S 20 i) 12) h) 12) sc i h hi (by omega) hw (S 12 i 0 - S 13 i 0) (cs_sum (S 20 i) 12) (by omega) (by omega) (by omega) (by omega)) (fun _ _ _ h => h) (wC_14 u ad (cs_ss S i (cs_mix (S 20 i) (S 12 i 0 - S 13 i 0) (cs_sum (S 20 i) 12) h) 12) sc hi) rfl rfl ⟨(Nat.le_of_ble_eq_true rfl), (Nat.le_of_ble_eq_true rfl)⟩ ⟨(Nat.le_of_ble_eq_true rfl), (Nat.le_of_ble_eq_true rfl)⟩ rfl hl.1 (Nat.le_of_ble_eq_true rfl) dc_S_shareOut_93 rfl ?_
                have r_14 := cs_rk_b (S 20 i) (S 12 i 0 - S 13 i 0) (cs_sum (S 20 i) 12) h 12
                refine cx_i2l X (by omega) (by omega) dc_S_shareOut_96 ?_
                refine lv_lload X.1 X.2.1 dc_S_shareOut_97 (lv_at hl 3 rfl) ?_
                refine cx_lcmp_ge (tgt := 114) X (by omega) (by omega) (by omega) (by omega) dc_S_shareOut_99 dc_S_shareOut_100 (by decide) (fun c_15 => ?_) (fun c_15 => ?_)
                · refine lv_iinc (v := jI ((h : Int) + 1)) (lv' := [(7, .int (jI ((h : Int) + 1))), (0, .ref (ad 14 i)), (1, .long (jL (cs_sum (S 20 i) 12))), (3, .long (jL (S 12 i 0 - S 13 i 0))), (5, .long (jL (S 12 i 0 - S 13 i 0 - cs_sum (cs_qu (S 20 i) (S 12 i 0 - S 13 i 0) (cs_sum (S 20 i) 12)) 12)))]) X.1 X.2.1 dc_S_shareOut_114 hl (k := 4) rfl (jI_add _ _) (by decide) rfl (fun ls hl => ?_)
                  refine lv_goto (tgt := 78) X.1 X.2.1 dc_S_shareOut_117 (by decide) ?_
                  have qs : cs_s0 (S 20 i) (S 12 i 0 - S 13 i 0) (cs_sum (S 20 i) 12) h = cs_qu (S 20 i) (S 12 i 0 - S 13 i 0) (cs_sum (S 20 i) 12) h := by rw [cs_s0, if_neg (by unfold cs_spare; omega), Int.add_zero]
                  have e2 : cs_ss S i (cs_mix (S 20 i) (S 12 i 0 - S 13 i 0) (cs_sum (S 20 i) 12) h) 12 = cs_ss S i (cs_mix (S 20 i) (S 12 i 0 - S 13 i 0) (cs_sum (S 20 i) 12) (h + 1)) 12 := by
                    refine cs_ss_c S i 12 (fun j hj => ?_)
                    simp only [cs_mix]
                    by_cases hjh : j = h
                    · subst hjh; simp [qs]
                    · by_cases hj2 : j < h
                      · rw [if_pos hj2, if_pos (by omega)]
                      · rw [if_neg hj2, if_neg (by omega)]
                  have B : cx_B u (cx_A (wC u ad S sc) sz) (wC u ad (cs_ss S i (cs_mix (S 20 i) (S 12 i 0 - S 13 i 0) (cs_sum (S 20 i) 12) (h + 1)) 12) sc) s H locs := by rw [← e2]; exact B
                  exact ih_10 (h + 1) ls _ _  (by omega) (by omega) B (by  exact lv_sub hl [1, 2, 3, 4, 0] rfl)
                · refine lv_aload_n X.1 X.2.1 dc_S_shareOut_103 rfl (lv_at hl 0 rfl) ?_
                  refine cx_get (v := .ref (ad 16 i)) X B (wC_14 u ad (cs_ss S i (cs_mix (S 20 i) (S 12 i 0 - S 13 i 0) (cs_sum (S 20 i) 12) h) 12) sc hi) rfl uw_S 3 (by decide) gf_S_23 rfl dc_S_shareOut_104 ?_
                  refine lv_iload X.1 X.2.1 dc_S_shareOut_107 (lv_at hl 4 rfl) ?_
                  refine lv_dup2_11 X.1 X.2.1 dc_S_shareOut_109 rfl rfl ?_
                  refine cx_lald X B (wC_16 u ad (cs_ss S i (cs_mix (S 20 i) (S 12 i 0 - S 13 i 0) (cs_sum (S 20 i) 12) h) 12) sc hi) (h) (by omega) (by omega) (by decide) dc_S_shareOut_110 ?_
                  refine cx_lconst (a := 1) X dc_S_shareOut_111 (by decide +kernel) ?_
                  refine cx_ladd X dc_S_shareOut_112 ?_
                  refine cx_last X B (wC_16 u ad (cs_ss S i (cs_mix (S 20 i) (S 12 i 0 - S 13 i 0) (cs_sum (S 20 i) 12) h) 12) sc hi) (h) (by omega) (by omega) (by decide) dc_S_shareOut_113 (fun H locs B => ?_)
                  have B : cx_B u (cx_A (wC u ad S sc) sz) (cx_up (wC u ad (cs_ss S i (cs_mix (S 20 i) (S 12 i 0 - S 13 i 0) (cs_sum (S 20 i) 12) h) 12) sc) 16 i (ad 16 i, .inl (u.2 1, 12, .inr (.inl (fun z_ => jL (va_up (fun z_ => (cs_ss S i (cs_mix (S 20 i) (S 12 i 0 - S 13 i 0) (cs_sum (S 20 i) 12) h) 12) 21 i z_) h (((cs_ss S i (cs_mix (S 20 i) (S 12 i 0 - S 13 i 0) (cs_sum (S 20 i) 12) h) 12) 21 i h) + 1) z_)))))) s H locs := B
                  refine lv_iinc (v := jI ((h : Int) + 1)) (lv' := [(7, .int (jI ((h : Int) + 1))), (0, .ref (ad 14 i)), (1, .long (jL (cs_sum (S 20 i) 12))), (3, .long (jL (S 12 i 0 - S 13 i 0))), (5, .long (jL (S 12 i 0 - S 13 i 0 - cs_sum (cs_qu (S 20 i) (S 12 i 0 - S 13 i 0) (cs_sum (S 20 i) 12)) 12)))]) X.1 X.2.1 dc_S_shareOut_114 hl (k := 4) rfl (jI_add _ _) (by decide) rfl (fun ls hl => ?_)
                  refine lv_goto (tgt := 78) X.1 X.2.1 dc_S_shareOut_117 (by decide) ?_
                  have qs : cs_s0 (S 20 i) (S 12 i 0 - S 13 i 0) (cs_sum (S 20 i) 12) h = cs_qu (S 20 i) (S 12 i 0 - S 13 i 0) (cs_sum (S 20 i) 12) h + 1 := by rw [cs_s0, if_pos (by unfold cs_spare; omega)]
                  have e2 : cs_u (cs_ss S i (cs_mix (S 20 i) (S 12 i 0 - S 13 i 0) (cs_sum (S 20 i) 12) h) 12) 21 i h ((cs_ss S i (cs_mix (S 20 i) (S 12 i 0 - S 13 i 0) (cs_sum (S 20 i) 12) h) 12) 21 i h + 1) = cs_ss S i (cs_mix (S 20 i) (S 12 i 0 - S 13 i 0) (cs_sum (S 20 i) 12) (h + 1)) 12 := by
                    rw [cs_ss_s S i _ (by omega)]
                    refine cs_ss_c S i 12 (fun j hj => ?_)
                    simp only [va_upE, cs_mix, cs_ss]
                    by_cases hjh : j = h
                    · subst hjh; simp [hj, qs]
                    · rw [if_neg hjh]; by_cases hj2 : j < h
                      · rw [if_pos hj2, if_pos (by omega)]
                      · rw [if_neg hj2, if_neg (by omega)]
                  have B : cx_B u (cx_A (wC u ad S sc) sz) (wC u ad (cs_ss S i (cs_mix (S 20 i) (S 12 i 0 - S 13 i 0) (cs_sum (S 20 i) 12) (h + 1)) 12) sc) s H locs := by
                    rw [← e2, ← wC_21 u ad (cs_ss S i (cs_mix (S 20 i) (S 12 i 0 - S 13 i 0) (cs_sum (S 20 i) 12) h) 12) sc hi]; exact B
                  exact ih_10 (h + 1) ls _ _  (by omega) (by omega) B (by  exact lv_sub hl [1, 2, 3, 4, 0] rfl)
          exact lp_8 ((12 : Int).toNat + 1) 0 ls _ _  (by omega) (by omega) B (by  exact lv_sub hl [1, 2, 3, 4, 0] rfl)
        · refine lv_aload_n X.1 X.2.1 dc_S_shareOut_39 rfl (lv_at hl 0 rfl) ?_
          refine cx_get (v := .ref (ad 16 i)) X B (wC_14 u ad (cs_ss S i (cs_qu (S 20 i) (S 12 i 0 - S 13 i 0) (cs_sum (S 20 i) 12)) h) sc hi) rfl uw_S 3 (by decide) gf_S_23 rfl dc_S_shareOut_40 ?_
          refine lv_iload X.1 X.2.1 dc_S_shareOut_43 (lv_at hl 4 rfl) ?_
          refine lv_lload_n X.1 X.2.1 dc_S_shareOut_45 rfl (lv_at hl 2 rfl) ?_
          refine lv_aload_n X.1 X.2.1 dc_S_shareOut_46 rfl (lv_at hl 0 rfl) ?_
          refine cx_get (v := .ref (ad 15 i)) X B (wC_14 u ad (cs_ss S i (cs_qu (S 20 i) (S 12 i 0 - S 13 i 0) (cs_sum (S 20 i) 12)) h) sc hi) rfl uw_S 2 (by decide) gf_S_19 rfl dc_S_shareOut_47 ?_
          refine lv_iload X.1 X.2.1 dc_S_shareOut_50 (lv_at hl 4 rfl) ?_
          refine cx_lald (f := fun z_ => S 20 i z_) X B (wC_15 u ad (cs_ss S i (cs_qu (S 20 i) (S 12 i 0 - S 13 i 0) (cs_sum (S 20 i) 12)) h) sc hi) (h) (by omega) (by omega) (by decide) dc_S_shareOut_52 ?_
          refine cx_lmul X dc_S_shareOut_53 ?_
          refine lv_lload_n X.1 X.2.1 dc_S_shareOut_54 rfl (lv_at hl 1 rfl) ?_
          refine cx_ldiv X (by omega) (by omega) (by omega) (by omega) dc_S_shareOut_55 ?_
          refine cx_last X B (wC_16 u ad (cs_ss S i (cs_qu (S 20 i) (S 12 i 0 - S 13 i 0) (cs_sum (S 20 i) 12)) h) sc hi) (h) (by omega) (by omega) (by decide) dc_S_shareOut_56 (fun H locs B => ?_)
          have B : cx_B u (cx_A (wC u ad S sc) sz) (cx_up (wC u ad (cs_ss S i (cs_qu (S 20 i) (S 12 i 0 - S 13 i 0) (cs_sum (S 20 i) 12)) h) sc) 16 i (ad 16 i, .inl (u.2 1, 12, .inr (.inl (fun z_ => jL (va_up (fun z_ => (cs_ss S i (cs_qu (S 20 i) (S 12 i 0 - S 13 i 0) (cs_sum (S 20 i) 12)) h) 21 i z_) h (((S 12 i 0 - S 13 i 0) * (S 20 i h)) / (cs_sum (S 20 i) 12)) z_)))))) s H locs := B
          refine lv_lload X.1 X.2.1 dc_S_shareOut_57 (lv_at hl 3 rfl) ?_
          refine lv_aload_n X.1 X.2.1 dc_S_shareOut_59 rfl (lv_at hl 0 rfl) ?_
          refine cx_get (v := .ref (ad 16 i)) X B ((cx_up_n _ _ (fun q => absurd q.1 (by decide))).trans (wC_14 u ad (cs_ss S i (cs_qu (S 20 i) (S 12 i 0 - S 13 i 0) (cs_sum (S 20 i) 12)) h) sc hi)) rfl uw_S 3 (by decide) gf_S_23 rfl dc_S_shareOut_60 ?_
          refine lv_iload X.1 X.2.1 dc_S_shareOut_63 (lv_at hl 4 rfl) ?_
          refine cx_lald X B (cx_up_s _ _ _ _) (h) (by omega) (by omega) (by decide) dc_S_shareOut_65 ?_
          rw [va_up_self]
          refine cx_lsub X dc_S_shareOut_66 ?_
          refine lv_lstore (lv' := [(5, .long (jL ((S 12 i 0 - S 13 i 0 - cs_sum (cs_qu (S 20 i) (S 12 i 0 - S 13 i 0) (cs_sum (S 20 i) 12)) h) - (((S 12 i 0 - S 13 i 0) * (S 20 i h)) / (cs_sum (S 20 i) 12))))), (0, .ref (ad 14 i)), (1, .long (jL (cs_sum (S 20 i) 12))), (3, .long (jL (S 12 i 0 - S 13 i 0))), (7, .int (jI ((h : Int))))]) X.1 X.2.1 dc_S_shareOut_67 hl (by decide) rfl (fun ls hl => ?_)
          refine lv_iinc (v := jI ((h : Int) + 1)) (lv' := [(7, .int (jI ((h : Int) + 1))), (5, .long (jL ((S 12 i 0 - S 13 i 0 - cs_sum (cs_qu (S 20 i) (S 12 i 0 - S 13 i 0) (cs_sum (S 20 i) 12)) h) - (((S 12 i 0 - S 13 i 0) * (S 20 i h)) / (cs_sum (S 20 i) 12))))), (0, .ref (ad 14 i)), (1, .long (jL (cs_sum (S 20 i) 12))), (3, .long (jL (S 12 i 0 - S 13 i 0)))]) X.1 X.2.1 dc_S_shareOut_69 hl (k := 4) rfl (jI_add _ _) (by decide) rfl (fun ls hl => ?_)
          refine lv_goto (tgt := 29) X.1 X.2.1 dc_S_shareOut_72 (by decide) ?_
          have B : cx_B u (cx_A (wC u ad S sc) sz) (wC u ad (cs_ss S i (cs_qu (S 20 i) (S 12 i 0 - S 13 i 0) (cs_sum (S 20 i) 12)) (h + 1)) sc) s H locs := by
            rw [← cs_ss_u, ← wC_21 u ad (cs_ss S i (cs_qu (S 20 i) (S 12 i 0 - S 13 i 0) (cs_sum (S 20 i) 12)) h) sc hi]; exact B
          have qq : S 12 i 0 - S 13 i 0 - cs_sum (cs_qu (S 20 i) (S 12 i 0 - S 13 i 0) (cs_sum (S 20 i) 12)) (h + 1) = S 12 i 0 - S 13 i 0 - cs_sum (cs_qu (S 20 i) (S 12 i 0 - S 13 i 0) (cs_sum (S 20 i) 12)) h - (S 12 i 0 - S 13 i 0) * S 20 i h / cs_sum (S 20 i) 12 := by
            rw [cs_sum_s]; show _ - (_ + (S 12 i 0 - S 13 i 0) * S 20 i h / cs_sum (S 20 i) 12) = _; omega
          exact ih_4 (h + 1) ls _ _  (by omega) (by omega) B (by rw [qq]; exact lv_sub hl [2, 3, 4, 1, 0] rfl)
    exact lp_2 ((12 : Int).toNat + 1) 0 ls _ _  (by omega) (by omega) B (by rw [show S 12 i 0 - S 13 i 0 - cs_sum (cs_qu (S 20 i) (S 12 i 0 - S 13 i 0) (cs_sum (S 20 i) 12)) 0 = S 12 i 0 - S 13 i 0 by simp [cs_sum]]; exact lv_sub hl [4, 3, 2, 1, 0] rfl)
  · refine cx_iconst X dc_S_shareOut_11 ?_
    exact cx_zretM X B hsz hr hlk (Nat.le_of_ble_eq_true rfl) (Nat.le_of_ble_eq_true rfl) (by omega) (by omega) (by rw [jB_f (by omega)]) (by rw [if_neg (by omega)]) dc_S_shareOut_12
def cs_mx (x : Int) : Int := if x < 0 then 0 else x
def op_ci (S : cs_S) (i h : Nat) (c : Int) : cs_S := cs_u (cs_u S 22 i 0 (S 22 i 0 + (cs_mx (S 21 i h + c) - S 21 i h))) 21 i h (cs_mx (S 21 i h + c))
set_option maxHeartbeats 4000000 in
set_option maxRecDepth 100000 in
theorem c_S_carryIn (l : Launch) (u : cx_U) (sz : Nat) (ad : Nat → Nat → Nat) (S : cs_S) (sc : Nat → Nat → Int) (i h : Nat) (hi : (i : Int) < S 0 0 0) (hh : h < 12) (cg : Int) (r1 : 0 ≤ S 21 i h) (r2 : S 21 i h ≤ 2000000000) (g1 : -200000000001000 ≤ cg) (g2 : cg ≤ 200000000) : cx_M l u mn_S_carryIn bc_S_carryIn 6 none 1 40 [.ref (ad 14 i), .int (jI ((h : Int))), .long (jL (cg))] (wC u ad S sc) sz (none) (fun w' => w' = wC u ad (op_ci S i h cg) sc) 0 0 := by
  refine cx_M.of (by decide +kernel) (Nat.le_of_ble_eq_true rfl) ?_
  intro p e s m args below meth c ls hsz X hr hlk hin B hl
  have X : CallFix p m c bc_S_carryIn 6 s args GW "CatchShares$Stock" := X
  have hl : lv_has ls 6 [(0, .ref (ad 14 i)), (1, .int (jI ((h : Int)))), (2, .long (jL (cg)))] := hl
  refine cx_lconst (a := 0) X dc_S_carryIn_0 (by decide +kernel) ?_
  refine lv_aload_n X.1 X.2.1 dc_S_carryIn_1 rfl (lv_at hl 0 rfl) ?_
  refine cx_get (v := .ref (ad 16 i)) X B (wC_14 u ad S sc hi) rfl uw_S 3 (by decide) gf_S_23 rfl dc_S_carryIn_2 ?_
  refine lv_iload_n X.1 X.2.1 dc_S_carryIn_5 rfl (lv_at hl 1 rfl) ?_
  refine cx_lald X B (wC_16 u ad S sc hi) (h) (by omega) (by omega) (by decide) dc_S_carryIn_6 ?_
  refine lv_lload_n X.1 X.2.1 dc_S_carryIn_7 rfl (lv_at hl 2 rfl) ?_
  refine cx_ladd X dc_S_carryIn_8 ?_
  refine cx_max X gm_S_54 (by omega) (by omega) (by omega) (by omega) hl.1 ⟨(Nat.le_of_ble_eq_true rfl), (Nat.le_of_ble_eq_true rfl)⟩ ⟨(Nat.le_of_ble_eq_true rfl), (Nat.le_of_ble_eq_true rfl)⟩ dc_S_carryIn_9 ?_
  rw [show (if S 21 i h + cg < 0 then 0 else S 21 i h + cg) = cs_mx (S 21 i h + cg) from rfl]
  refine lv_lstore (lv' := [(4, .long (jL (cs_mx (S 21 i h + cg)))), (0, .ref (ad 14 i)), (1, .int (jI ((h : Int)))), (2, .long (jL (cg)))]) X.1 X.2.1 dc_S_carryIn_12 hl (by decide) rfl (fun ls hl => ?_)
  refine lv_aload_n X.1 X.2.1 dc_S_carryIn_14 rfl (lv_at hl 1 rfl) ?_
  refine lv_dup X.1 X.2.1 dc_S_carryIn_15 rfl ?_
  refine cx_get (v := .long (jL (S 22 i 0))) X B (wC_14 u ad S sc hi) rfl uw_S 10 (by decide) gf_S_47 rfl dc_S_carryIn_16 ?_
  refine lv_lload X.1 X.2.1 dc_S_carryIn_19 (lv_at hl 0 rfl) ?_
  refine lv_aload_n X.1 X.2.1 dc_S_carryIn_21 rfl (lv_at hl 1 rfl) ?_
  refine cx_get (v := .ref (ad 16 i)) X B (wC_14 u ad S sc hi) rfl uw_S 3 (by decide) gf_S_23 rfl dc_S_carryIn_22 ?_
  refine lv_iload_n X.1 X.2.1 dc_S_carryIn_25 rfl (lv_at hl 2 rfl) ?_
  refine cx_lald X B (wC_16 u ad S sc hi) (h) (by omega) (by omega) (by decide) dc_S_carryIn_26 ?_
  refine cx_lsub X dc_S_carryIn_27 ?_
  refine cx_ladd X dc_S_carryIn_28 ?_
  refine cx_put (v := .long (jL ((S 22 i 0) + ((cs_mx (S 21 i h + cg)) - (S 21 i h))))) X B (wC_14 u ad S sc hi) rfl uw_S ft_S fo_S fn_S 10 (by decide) gf_S_47 rfl (fo_S 10 (by decide)) rfl rfl (Nat.le_of_ble_eq_true rfl) dc_S_carryIn_29 (fun H locs B => ?_)
  have B : cx_B u (cx_A (wC u ad S sc) sz) (cx_up (wC u ad S sc) 14 i (ad 14 i, .inr (2, [.int (jI ((i : Int))), .long (jL (S 12 i 0)), .ref (ad 15 i), .ref (ad 16 i), .long (jL (S 13 i 0)), .int (jI (S 14 i 0)), .int (jI (S 15 i 0)), .int (jI (S 16 i 0)), .long (jL (S 17 i 0)), .long (jL (S 18 i 0)), .long (jL ((S 22 i 0) + ((cs_mx (S 21 i h + cg)) - (S 21 i h))))]))) s H locs := B
  refine lv_aload_n X.1 X.2.1 dc_S_carryIn_32 rfl (lv_at hl 1 rfl) ?_
  refine cx_get (v := .ref (ad 16 i)) X B (cx_up_s _ _ _ _) rfl uw_S 3 (by decide) gf_S_23 rfl dc_S_carryIn_33 ?_
  refine lv_iload_n X.1 X.2.1 dc_S_carryIn_36 rfl (lv_at hl 2 rfl) ?_
  refine lv_lload X.1 X.2.1 dc_S_carryIn_37 (lv_at hl 0 rfl) ?_
  refine cx_last X B ((cx_up_n _ _ (fun q => absurd q.1 (by decide))).trans (wC_16 u ad S sc hi)) (h) (by omega) (by omega) (by decide) dc_S_carryIn_39 (fun H locs B => ?_)
  have B : cx_B u (cx_A (wC u ad S sc) sz) (cx_up (cx_up (wC u ad S sc) 14 i (ad 14 i, .inr (2, [.int (jI ((i : Int))), .long (jL (S 12 i 0)), .ref (ad 15 i), .ref (ad 16 i), .long (jL (S 13 i 0)), .int (jI (S 14 i 0)), .int (jI (S 15 i 0)), .int (jI (S 16 i 0)), .long (jL (S 17 i 0)), .long (jL (S 18 i 0)), .long (jL ((S 22 i 0) + ((cs_mx (S 21 i h + cg)) - (S 21 i h))))]))) 16 i (ad 16 i, .inl (u.2 1, 12, .inr (.inl (fun z_ => jL (va_up (fun z_ => S 21 i z_) h (cs_mx (S 21 i h + cg)) z_)))))) s H locs := B
  have hG : cx_up (cx_up (wC u ad S sc) 14 i (ad 14 i, .inr (2, [.int (jI ((i : Int))), .long (jL (S 12 i 0)), .ref (ad 15 i), .ref (ad 16 i), .long (jL (S 13 i 0)), .int (jI (S 14 i 0)), .int (jI (S 15 i 0)), .int (jI (S 16 i 0)), .long (jL (S 17 i 0)), .long (jL (S 18 i 0)), .long (jL ((S 22 i 0) + ((cs_mx (S 21 i h + cg)) - (S 21 i h))))]))) 16 i (ad 16 i, .inl (u.2 1, 12, .inr (.inl (fun z_ => jL (va_up (fun z_ => S 21 i z_) h (cs_mx (S 21 i h + cg)) z_))))) = wC u ad (op_ci S i h cg) sc := by
    unfold op_ci
    funext k j
    match k with
    | 0 => by_cases hz : j = 0 <;> simp [cx_up, wC, cs_u, hz, va_upE, Int.toNat_natCast, hi]
    | 1 => by_cases hz : j = 0 <;> simp [cx_up, wC, cs_u, hz, va_upE, Int.toNat_natCast, hi]
    | 2 => by_cases hz : j = 0 <;> simp [cx_up, wC, cs_u, hz, va_upE, Int.toNat_natCast, hi]
    | 3 => by_cases hz : j = 0 <;> simp [cx_up, wC, cs_u, hz, va_upE, Int.toNat_natCast, hi]
    | 4 => by_cases hz : j = 0 <;> simp [cx_up, wC, cs_u, hz, va_upE, Int.toNat_natCast, hi]
    | 5 => by_cases hz : j = 0 <;> simp [cx_up, wC, cs_u, hz, va_upE, Int.toNat_natCast, hi]
    | 6 => by_cases hz : j = 0 <;> simp [cx_up, wC, cs_u, hz, va_upE, Int.toNat_natCast, hi]
    | 7 => by_cases hz : j = 0 <;> simp [cx_up, wC, cs_u, hz, va_upE, Int.toNat_natCast, hi]
    | 8 => by_cases hz : j = 0 <;> simp [cx_up, wC, cs_u, hz, va_upE, Int.toNat_natCast, hi]
    | 9 => by_cases hz : j = 0 <;> simp [cx_up, wC, cs_u, hz, va_upE, Int.toNat_natCast, hi]
    | 10 => by_cases hz : j = 0 <;> simp [cx_up, wC, cs_u, hz, va_upE, Int.toNat_natCast, hi]
    | 11 => by_cases hz : j = 0 <;> simp [cx_up, wC, cs_u, hz, va_upE, Int.toNat_natCast, hi]
    | 12 => by_cases hz : j = 0 <;> simp [cx_up, wC, cs_u, hz, va_upE, Int.toNat_natCast, hi]
    | 13 => by_cases hz : j = 0 <;> simp [cx_up, wC, cs_u, hz, va_upE, Int.toNat_natCast, hi]
    | 14 => by_cases hj0 : j = i <;> simp [cx_up, wC, cs_u, va_upE, Int.toNat_natCast, hi, hj0]
    | 15 => by_cases hj0 : j = i <;> simp [cx_up, wC, cs_u, va_upE, Int.toNat_natCast, hi, hj0]
    | 16 => by_cases hj0 : j = i <;> simp [cx_up, wC, cs_u, va_upE, Int.toNat_natCast, hi, hj0]
    | k + 17 => simp [cx_up, wC]
  exact cx_vretM X B hsz hr hlk (Nat.le_of_ble_eq_true rfl) (Nat.le_of_ble_eq_true rfl) hG dc_S_carryIn_40
def cs_cs (S : cs_S) (i k j : Nat) : Int := cs_mx (S 21 i j + cs_carry S k j)
def op_co (S : cs_S) (i k n : Nat) : cs_S := cs_u (cs_ss S i (cs_cs S i k) n) 22 i 0 (S 22 i 0 + cs_sum (fun j => cs_cs S i k j - S 21 i j) n)
theorem op_co_0 (S : cs_S) (i k : Nat) : op_co S i k 0 = S := by
  funext a b c
  simp only [op_co, cs_u, cs_ss, cs_sum]
  by_cases h : a = 22 ∧ b = i ∧ c = 0
  · obtain ⟨rfl, rfl, rfl⟩ := h
    simp
  · rw [if_neg h, if_neg (fun q => absurd q.2.2 (by omega))]
theorem cs_carry_c {S T : cs_S} {k h : Nat} (h2 : T 2 = S 2) (h3 : T 3 = S 3) (h4 : T 4 = S 4) (h7 : T 7 = S 7) (h8 : T 8 = S 8) (h9 : T 9 = S 9) (h10 : T 10 = S 10) (h21 : T 21 k h = S 21 k h) : cs_carry T k h = cs_carry S k h := by
  have e1 : cs_lf T k h = cs_lf S k h := by
    simp only [cs_lf, cs_left, cs_told, h2, h7, h8, h9, h10, h21]
  have e2 : cs_over T k h = cs_over S k h := by
    unfold cs_over
    rw [e1]
  unfold cs_carry
  rw [e2, e1, h3, h4, h21]
theorem op_co_s {S : cs_S} {i k h : Nat} : op_ci (op_co S i k h) i h (cs_carry S k h) = op_co S i k (h + 1) := by
  have e21 : (op_co S i k h) 21 i h = S 21 i h := by simp [op_co, cs_u, cs_ss]
  have e22 : (op_co S i k h) 22 i 0 = S 22 i 0 + cs_sum (fun j => cs_cs S i k j - S 21 i j) h := by simp [op_co, cs_u]
  unfold op_ci
  rw [e21, e22]
  funext a b c
  simp only [op_co, cs_u, cs_sum_s]
  by_cases h1 : a = 22 ∧ b = i ∧ c = 0
  · obtain ⟨rfl, rfl, rfl⟩ := h1
    simp [cs_cs]
    omega
  · rw [if_neg h1, if_neg h1, if_neg h1]
    exact congrFun (congrFun (congrFun (cs_ss_u S i (cs_cs S i k) h) a) b) c
set_option maxHeartbeats 4000000 in
set_option maxRecDepth 100000 in
theorem c_C_carryOver (l : Launch) (u : cx_U) (sz : Nat) (ad : Nat → Nat → Nat) (S : cs_S) (sc : Nat → Nat → Int) (hI : cs_I S) (i k : Nat) (hi : (i : Int) < S 0 0 0) (hk : (k : Int) < S 0 0 0) (hki : k ≠ i) (hJ : ∀ n, n ≤ 12 → cs_I (op_co S i k n)) : cx_M l u mn_C_carryOver bc_C_carryOver 4 none 5 117 [.ref (ad 0 0), .ref (ad 14 k), .ref (ad 14 i)] (wC u ad S sc) sz (none) (fun w' => w' = wC u ad (op_co S i k (S 1 0 0).toNat) sc) 0 0 := by
  refine cx_M.of (by decide +kernel) (Nat.le_of_ble_eq_true rfl) ?_
  intro p e s m args below meth c ls hsz X hr hlk hin B hl
  have X : CallFix p m c bc_C_carryOver 4 s args GW "CatchShares" := X
  have hl : lv_has ls 4 [(0, .ref (ad 0 0)), (1, .ref (ad 14 k)), (2, .ref (ad 14 i))] := hl
  have hI1 := hI.1
  refine cx_iconst X dc_C_carryOver_0 ?_
  refine lv_istore_n (lv' := [(3, .int (jI (0))), (0, .ref (ad 0 0)), (1, .ref (ad 14 k)), (2, .ref (ad 14 i))]) X.1 X.2.1 dc_C_carryOver_1 rfl hl (by decide) rfl (fun ls hl => ?_)
  have B : cx_B u (cx_A (wC u ad S sc) sz) (wC u ad (op_co S i k 0) sc) s s.heap [] := by rw [op_co_0]; exact B
  have lp_1 : ∀ (n_2 h : Nat) (ls : Array Slot) (H : Heap) (locs : List Loc) , (h : Int) ≤ S 1 0 0 → S 1 0 0 - (h : Int) < (n_2 : Int) → cx_B u (cx_A (wC u ad S sc) sz) (wC u ad (op_co S i k h) sc) s H locs → lv_has ls 4 [(0, .ref (ad 0 0)), (1, .ref (ad 14 k)), (2, .ref (ad 14 i)), (3, .int (jI ((h : Int))))] → W p l e (cx_R 5 117 0 0) s m args below meth c H locs 0 0 (MQ below (cx_Q u (wC u ad S sc) sz (none) (fun w' => w' = wC u ad (op_co S i k (S 1 0 0).toNat) sc)) args s 0 0 (cx_A (wC u ad S sc) sz)) (F0 m 2 ls []) := by
    intro n_2
    induction n_2 with
    | zero => intro h ls H locs  hi_4 hn_5; exfalso; omega
    | succ n_2 ih_3 =>
      intro h ls H locs  hi_4 hn_5 B hl
      refine lv_iload_n X.1 X.2.1 dc_C_carryOver_2 rfl (lv_at hl 3 rfl) ?_
      refine lv_aload_n X.1 X.2.1 dc_C_carryOver_3 rfl (lv_at hl 0 rfl) ?_
      refine cx_get (v := .int (jI (S 1 0 0))) X B (wC_0 u ad (op_co S i k h) sc) rfl uw_C 4 (by decide) gf_C_55 rfl dc_C_carryOver_4 ?_
      refine cx_icmp_ge (tgt := 27) X (by omega) (by omega) (by omega) (by omega) dc_C_carryOver_7 (by decide) (fun c_6 => ?_) (fun c_6 => ?_)
      · exact cx_vretM X B hsz hr hlk (Nat.le_of_ble_eq_true rfl) (Nat.le_of_ble_eq_true rfl) (by rw [show (S 1 0 0).toNat = h by omega]) dc_C_carryOver_27
      · refine lv_aload_n X.1 X.2.1 dc_C_carryOver_10 rfl (lv_at hl 2 rfl) ?_
        refine lv_iload_n X.1 X.2.1 dc_C_carryOver_11 rfl (lv_at hl 3 rfl) ?_
        refine lv_aload_n X.1 X.2.1 dc_C_carryOver_12 rfl (lv_at hl 0 rfl) ?_
        refine lv_aload_n X.1 X.2.1 dc_C_carryOver_13 rfl (lv_at hl 1 rfl) ?_
        refine lv_iload_n X.1 X.2.1 dc_C_carryOver_14 rfl (lv_at hl 3 rfl) ?_
        refine cx_cVN (r := .long (jL (cs_carry (op_co S i k h) k h))) (As := [.ref (ad 14 k), .int (jI ((h : Int)))]) (rest := [.int (jI ((h : Int))), .ref (ad 14 i)]) X B kc_C_carriedOf gm_C_136 (c_C_carriedOf l u ad (op_co S i k h) sc (hJ h (by omega)) k h hk (by omega)) (fun _ _ _ h => h) (wC_0 u ad (op_co S i k h) sc) rfl rfl ⟨(Nat.le_of_ble_eq_true rfl), (Nat.le_of_ble_eq_true rfl)⟩ ⟨(Nat.le_of_ble_eq_true rfl), (Nat.le_of_ble_eq_true rfl)⟩ rfl hl.1 (Nat.le_of_ble_eq_true rfl) dc_C_carryOver_15 rfl ?_
        have ec : cs_carry (op_co S i k h) k h = cs_carry S k h := cs_carry_c rfl rfl rfl rfl rfl rfl rfl (by simp [op_co, cs_u, cs_ss, hki])
        rw [ec]
        have hcb := cs_carry_b hI k h
        have hsb := hI.2.2.2.2.2.1 i h
        have e21 : (op_co S i k h) 21 i h = S 21 i h := by simp [op_co, cs_u, cs_ss]
        refine cx_cVM (As := [.int (jI ((h : Int))), .long (jL (cs_carry S k h))]) (rest := []) X B kc_S_carryIn gm_C_204 (c_S_carryIn l u _ ad (op_co S i k h) sc i h hi (by omega) (cs_carry S k h) (by rw [e21]; omega) (by rw [e21]; omega) (by omega) (by omega)) (wC_14 u ad (op_co S i k h) sc (i := i) hi) rfl rfl ⟨(Nat.le_of_ble_eq_true rfl), (Nat.le_of_ble_eq_true rfl)⟩ ⟨(Nat.le_of_ble_eq_true rfl), (Nat.le_of_ble_eq_true rfl)⟩ rfl hl.1 (Nat.le_of_ble_eq_true rfl) dc_C_carryOver_18 rfl (fun H locs w' hw B => ?_)
        subst hw
        rw [op_co_s] at B
        refine lv_iinc (v := jI ((h : Int) + 1)) (lv' := [(3, .int (jI ((h : Int) + 1))), (0, .ref (ad 0 0)), (1, .ref (ad 14 k)), (2, .ref (ad 14 i))]) X.1 X.2.1 dc_C_carryOver_21 hl (k := 3) rfl (jI_add _ _) (by decide) rfl (fun ls hl => ?_)
        refine lv_goto (tgt := 2) X.1 X.2.1 dc_C_carryOver_24 (by decide) ?_
        exact ih_3 (h + 1) ls _ _  (by omega) (by omega) B (by  exact lv_sub hl [1, 2, 3, 0] rfl)
  exact lp_1 ((S 1 0 0 : Int).toNat + 1) 0 ls _ _  (by omega) (by omega) B (by  exact lv_sub hl [1, 2, 3, 0] rfl)
def cs_F (S : cs_S) : Prop := ∀ i : Nat, (i : Int) < S 0 0 0 → S 14 i 0 = 0 → S 15 i 0 = -1 ∨ ∃ k : Nat, S 15 i 0 = (k : Int) ∧ (k : Int) < S 0 0 0 ∧ k ≠ i
def op_ca (S : cs_S) (i : Nat) : cs_S := if S 15 i 0 = -1 then op_out S i else op_co (op_out S i) i (S 15 i 0).toNat (S 1 0 0).toNat
def op_part (S : cs_S) (a : Int) : cs_S := if 0 ≤ a ∧ a < S 0 0 0 ∧ S 14 a.toNat 0 = 0 ∧ 1 ≤ cs_sum (S 20 a.toNat) 12 then cs_u (cs_u (op_ca S a.toNat) 14 a.toNat 0 1) 19 a.toNat 0 (S 19 a.toNat 0 + ((op_ca S a.toNat) 22 a.toNat 0 - (S 12 a.toNat 0 - S 13 a.toNat 0))) else S
def cs_partQ (S : cs_S) (a : Int) : Int := if 0 ≤ a ∧ a < S 0 0 0 ∧ S 14 a.toNat 0 = 0 ∧ 1 ≤ cs_sum (S 20 a.toNat) 12 then cs_cnt ((op_ca S a.toNat) 21 a.toNat) 12 else -1
theorem op_ca_e (S : cs_S) (i : Nat) {f x y : Nat} (h1 : f ≠ 21) (h2 : f ≠ 22) : op_ca S i f x y = S f x y := by
  unfold op_ca
  split <;> simp [op_co, op_out, cs_u, cs_ss, h1, h2]
set_option maxHeartbeats 4000000 in
set_option maxRecDepth 100000 in
theorem c_C_part (l : Launch) (u : cx_U) (sz : Nat) (ad : Nat → Nat → Nat) (S : cs_S) (sc : Nat → Nat → Int) (hI : cs_I S) (hF : cs_F S) (hJ : ∀ i : Nat, (i : Int) < S 0 0 0 → S 14 i 0 = 0 → 1 ≤ cs_sum (S 20 i) 12 → cs_I (op_out S i) ∧ ∀ k : Nat, S 15 i 0 = (k : Int) → (k : Int) < S 0 0 0 → k ≠ i → ∀ n, n ≤ 12 → cs_I (op_co (op_out S i) i k n)) (a : Int) (a1 : -2147483648 ≤ a) (a2 : a ≤ 2147483647) : cx_M l u mn_C_part bc_C_part 4 (some .int) 6 140 [.ref (ad 0 0), .int (jI (a))] (wC u ad S sc) sz (some (.int (jI (cs_partQ S a)))) (fun w' => w' = wC u ad (op_part S a) sc) 0 0 := by
  refine cx_M.of (by decide +kernel) (Nat.le_of_ble_eq_true rfl) ?_
  intro p e s m args below meth c ls hsz X hr hlk hin B hl
  have X : CallFix p m c bc_C_part 4 s args GW "CatchShares" := X
  have hl : lv_has ls 4 [(0, .ref (ad 0 0)), (1, .int (jI (a)))] := hl
  have hI1 := hI.1
  have hI5 := hI.2.2.2.2.1
  refine lv_aload_n X.1 X.2.1 dc_C_part_0 rfl (lv_at hl 0 rfl) ?_
  refine lv_iload_n X.1 X.2.1 dc_C_part_1 rfl (lv_at hl 1 rfl) ?_
  by_cases hs_1 : 0 ≤ a ∧ a < S 0 0 0
  · obtain ⟨i, rfl⟩ : ∃ i : Nat, a = (i : Int) := ⟨a.toNat, by omega⟩
    have hi : (i : Int) < S 0 0 0 := hs_1.2
    refine cx_cVN (As := [.int (jI (i : Int))]) (rest := []) X B kc_C_findStock gm_C_62 (c_C_findStock l u ad S sc hI i hi) (fun _ _ _ h => h) (wC_0 u ad S sc) rfl rfl ⟨(Nat.le_of_ble_eq_true rfl), (Nat.le_of_ble_eq_true rfl)⟩ ⟨(Nat.le_of_ble_eq_true rfl), (Nat.le_of_ble_eq_true rfl)⟩ rfl hl.1 (Nat.le_of_ble_eq_true rfl) dc_C_part_2 rfl ?_
    refine lv_astore_n (lv' := [(2, .ref (ad 14 i)), (0, .ref (ad 0 0)), (1, .int (jI ((i : Int))))]) X.1 X.2.1 dc_C_part_5 rfl hl (by decide) rfl (fun ls hl => ?_)
    refine lv_aload_n X.1 X.2.1 dc_C_part_6 rfl (lv_at hl 0 rfl) ?_
    refine lv_ifnull X.1 X.2.1 dc_C_part_7 ?_
    refine lv_aload_n X.1 X.2.1 dc_C_part_10 rfl (lv_at hl 0 rfl) ?_
    refine cx_get (v := .int (jI (S 14 i 0))) X B (wC_14 u ad S sc hi) rfl uw_S 5 (by decide) gf_C_69 rfl dc_C_part_11 ?_
    have r_2 := hI5 i
    refine cx_if_ne (tgt := 24) X (by omega) (by omega) dc_C_part_14 (by decide) (fun c_3 => ?_) (fun c_3 => ?_)
    · refine cx_iconst X dc_C_part_24 ?_
      have hQ : ¬ (0 ≤ (i : Int) ∧ (i : Int) < S 0 0 0 ∧ S 14 (i : Int).toNat 0 = 0 ∧ 1 ≤ cs_sum (S 20 (i : Int).toNat) 12) := by (try simp only [cs_nn]); omega
      exact cx_iretM X B hsz hr hlk (Nat.le_of_ble_eq_true rfl) (Nat.le_of_ble_eq_true rfl) (by rw [cs_partQ, if_neg hQ]) (by rw [op_part, if_neg hQ]) dc_C_part_25
    · refine lv_aload_n X.1 X.2.1 dc_C_part_17 rfl (lv_at hl 0 rfl) ?_
      refine cx_cVM (As := []) (rest := []) X B kc_S_shareOut gm_C_89 (c_S_shareOut l u _ ad S sc hI i hi) (wC_14 u ad S sc hi) rfl rfl ⟨(Nat.le_of_ble_eq_true rfl), (Nat.le_of_ble_eq_true rfl)⟩ ⟨(Nat.le_of_ble_eq_true rfl), (Nat.le_of_ble_eq_true rfl)⟩ rfl hl.1 (Nat.le_of_ble_eq_true rfl) dc_C_part_18 rfl (fun H locs w' hw B => ?_)
      subst hw
      refine cx_ifneB (tgt := 26) X dc_C_part_21 (by decide) (fun c_4 => ?_) (fun c_4 => ?_)
      · rw [if_pos c_4] at B
        have hj := hJ i hi (by omega) c_4
        refine lv_aload_n X.1 X.2.1 dc_C_part_26 rfl (lv_at hl 1 rfl) ?_
        refine lv_aload_n X.1 X.2.1 dc_C_part_27 rfl (lv_at hl 0 rfl) ?_
        refine cx_get (v := .int (jI (S 15 i 0))) X B (wC_14 u ad (op_out S i) sc hi) rfl uw_S 6 (by decide) gf_C_86 rfl dc_C_part_28 ?_
        have r_5 := hI5 i
        rcases hF i hi (by omega) with hf | ⟨k, hf, hk, hki⟩
        · have eca : op_ca S i = op_out S i := by rw [op_ca, if_pos hf]
          rw [hf]
          refine cx_cVN (As := [.int (jI (-1))]) (rest := []) X B kc_C_findStock gm_C_62 (c_C_findStock_0 l u ad (op_out S i) sc hj.1 (-1) (by omega) (by omega) (by omega)) (fun _ _ _ h => h) (wC_0 u ad (op_out S i) sc) rfl rfl ⟨(Nat.le_of_ble_eq_true rfl), (Nat.le_of_ble_eq_true rfl)⟩ ⟨(Nat.le_of_ble_eq_true rfl), (Nat.le_of_ble_eq_true rfl)⟩ rfl hl.1 (Nat.le_of_ble_eq_true rfl) dc_C_part_31 rfl ?_
          refine lv_astore_nN (lv' := [(3, .null), (2, .ref (ad 14 i)), (0, .ref (ad 0 0)), (1, .int (jI ((i : Int))))]) X.1 X.2.1 dc_C_part_34 rfl hl (by decide) rfl (fun ls hl => ?_)
          refine lv_aload_nN X.1 X.2.1 dc_C_part_35 rfl (lv_at hl 0 rfl) ?_
          refine lv_ifnullN (tgt := 45) X.1 X.2.1 dc_C_part_36 (by decide) ?_
          have B : cx_B u (cx_A (wC u ad S sc) sz) (wC u ad (op_ca S i) sc) s H locs := by rw [eca]; exact B
          have hca : cs_I (op_ca S i) := by rw [eca]; exact hj.1
          have eq : ∀ f x y, f ≠ 21 → f ≠ 22 → op_ca S i f x y = S f x y := fun f x y h1 h2 => op_ca_e S i h1 h2
          have hi2 : (i : Int) < op_ca S i 0 0 0 := by rw [eq 0 0 0 (by decide) (by decide)]; exact hi
          have hwc := wC_14 u ad (op_ca S i) sc hi2
          simp only [eq 12 i 0 (by decide) (by decide), eq 13 i 0 (by decide) (by decide), eq 14 i 0 (by decide) (by decide), eq 15 i 0 (by decide) (by decide), eq 16 i 0 (by decide) (by decide), eq 17 i 0 (by decide) (by decide), eq 18 i 0 (by decide) (by decide)] at hwc
          refine lv_aload_n X.1 X.2.1 dc_C_part_45 rfl (lv_at hl 1 rfl) ?_
          refine cx_iconst X dc_C_part_46 ?_
          refine cx_put (v := .int (jI (1))) X B hwc rfl uw_S ft_S fo_S fn_S 5 (by decide) gf_C_69 rfl (fo_S 5 (by decide)) (by decide +kernel) rfl (Nat.le_of_ble_eq_true rfl) dc_C_part_47 (fun H locs B => ?_)
          have B : cx_B u (cx_A (wC u ad S sc) sz) (cx_up (wC u ad (op_ca S i) sc) 14 i (ad 14 i, .inr (2, [.int (jI ((i : Int))), .long (jL (S 12 i 0)), .ref (ad 15 i), .ref (ad 16 i), .long (jL (S 13 i 0)), .int (jI (1)), .int (jI (S 15 i 0)), .int (jI (S 16 i 0)), .long (jL (S 17 i 0)), .long (jL (S 18 i 0)), .long (jL ((op_ca S i) 22 i 0))]))) s H locs := B
          have hQ : 0 ≤ (i : Int) ∧ (i : Int) < S 0 0 0 ∧ S 14 (i : Int).toNat 0 = 0 ∧ 1 ≤ cs_sum (S 20 (i : Int).toNat) 12 := by (try simp only [cs_nn]); omega
          have hG : cx_up (wC u ad (op_ca S i) sc) 14 i (ad 14 i, .inr (2, [.int (jI ((i : Int))), .long (jL (S 12 i 0)), .ref (ad 15 i), .ref (ad 16 i), .long (jL (S 13 i 0)), .int (jI (1)), .int (jI (S 15 i 0)), .int (jI (S 16 i 0)), .long (jL (S 17 i 0)), .long (jL (S 18 i 0)), .long (jL ((op_ca S i) 22 i 0))])) = wC u ad (op_part S (i : Int)) sc := by
            rw [op_part, if_pos hQ, cs_nn]
            have eq12 := eq 12 i 0 (by decide) (by decide)
            have eq13 := eq 13 i 0 (by decide) (by decide)
            have eq15 := eq 15 i 0 (by decide) (by decide)
            have eq16 := eq 16 i 0 (by decide) (by decide)
            have eq17 := eq 17 i 0 (by decide) (by decide)
            have eq18 := eq 18 i 0 (by decide) (by decide)
            funext k j
            match k with
            | 0 => by_cases hz : j = 0 <;> simp [cx_up, wC, cs_u, hz, hi2, eq12, eq13, eq15, eq16, eq17, eq18]
            | 1 => by_cases hz : j = 0 <;> simp [cx_up, wC, cs_u, hz, hi2, eq12, eq13, eq15, eq16, eq17, eq18]
            | 2 => by_cases hz : j = 0 <;> simp [cx_up, wC, cs_u, hz, hi2, eq12, eq13, eq15, eq16, eq17, eq18]
            | 3 => by_cases hz : j = 0 <;> simp [cx_up, wC, cs_u, hz, hi2, eq12, eq13, eq15, eq16, eq17, eq18]
            | 4 => by_cases hz : j = 0 <;> simp [cx_up, wC, cs_u, hz, hi2, eq12, eq13, eq15, eq16, eq17, eq18]
            | 5 => by_cases hz : j = 0 <;> simp [cx_up, wC, cs_u, hz, hi2, eq12, eq13, eq15, eq16, eq17, eq18]
            | 6 => by_cases hz : j = 0 <;> simp [cx_up, wC, cs_u, hz, hi2, eq12, eq13, eq15, eq16, eq17, eq18]
            | 7 => by_cases hz : j = 0 <;> simp [cx_up, wC, cs_u, hz, hi2, eq12, eq13, eq15, eq16, eq17, eq18]
            | 8 => by_cases hz : j = 0 <;> simp [cx_up, wC, cs_u, hz, hi2, eq12, eq13, eq15, eq16, eq17, eq18]
            | 9 => by_cases hz : j = 0 <;> simp [cx_up, wC, cs_u, hz, hi2, eq12, eq13, eq15, eq16, eq17, eq18]
            | 10 => by_cases hz : j = 0 <;> simp [cx_up, wC, cs_u, hz, hi2, eq12, eq13, eq15, eq16, eq17, eq18]
            | 11 => by_cases hz : j = 0 <;> simp [cx_up, wC, cs_u, hz, hi2, eq12, eq13, eq15, eq16, eq17, eq18]
            | 12 => by_cases hz : j = 0 <;> simp [cx_up, wC, cs_u, hz, hi2, eq12, eq13, eq15, eq16, eq17, eq18]
            | 13 => by_cases hz : j = 0 <;> simp [cx_up, wC, cs_u, hz, hi2, eq12, eq13, eq15, eq16, eq17, eq18]
            | 14 => by_cases hj0 : j = i <;> simp [cx_up, wC, cs_u, hi2, eq12, eq13, eq15, eq16, eq17, eq18, hj0]
            | 15 => by_cases hj0 : j = i <;> simp [cx_up, wC, cs_u, hi2, eq12, eq13, eq15, eq16, eq17, eq18, hj0]
            | 16 => by_cases hj0 : j = i <;> simp [cx_up, wC, cs_u, hi2, eq12, eq13, eq15, eq16, eq17, eq18, hj0]
            | k + 17 => simp [cx_up, wC]
          have hi3 : (i : Int) < (op_part S (i : Int)) 0 0 0 := by rw [op_part, if_pos hQ, cs_nn]; simpa [cs_u] using hi2
          have B : cx_B u (cx_A (wC u ad S sc) sz) (wC u ad (op_part S (i : Int)) sc) s H locs := by rw [← hG]; exact B
          have e21 : (op_part S (i : Int)) 21 i = (op_ca S i) 21 i := by rw [op_part, if_pos hQ, cs_nn]; funext z; simp [cs_u]
          refine lv_aload_n X.1 X.2.1 dc_C_part_50 rfl (lv_at hl 1 rfl) ?_
          refine cx_cVN (r := .int (jI (cs_cnt ((op_part S (i : Int)) 21 i) 12))) (As := []) (rest := []) X B kc_S_countShares gm_C_97 (c_S_countShares l u ad (op_part S (i : Int)) sc i hi3 (fun h => by rw [e21]; have := hca.2.2.2.2.2.1 i h; omega)) (fun _ _ _ h => h) (wC_14 u ad (op_part S (i : Int)) sc hi3) rfl rfl ⟨(Nat.le_of_ble_eq_true rfl), (Nat.le_of_ble_eq_true rfl)⟩ ⟨(Nat.le_of_ble_eq_true rfl), (Nat.le_of_ble_eq_true rfl)⟩ rfl hl.1 (Nat.le_of_ble_eq_true rfl) dc_C_part_51 rfl ?_
          exact cx_iretM X B hsz hr hlk (Nat.le_of_ble_eq_true rfl) (Nat.le_of_ble_eq_true rfl) (by rw [cs_partQ, if_pos hQ, e21]; rfl) (rfl) dc_C_part_54
        · have eca : op_ca S i = op_co (op_out S i) i k (S 1 0 0).toNat := by rw [op_ca, if_neg (by omega), hf]; rfl
          rw [hf]
          refine cx_cVN (As := [.int (jI (k : Int))]) (rest := []) X B kc_C_findStock gm_C_62 (c_C_findStock l u ad (op_out S i) sc hj.1 k hk) (fun _ _ _ h => h) (wC_0 u ad (op_out S i) sc) rfl rfl ⟨(Nat.le_of_ble_eq_true rfl), (Nat.le_of_ble_eq_true rfl)⟩ ⟨(Nat.le_of_ble_eq_true rfl), (Nat.le_of_ble_eq_true rfl)⟩ rfl hl.1 (Nat.le_of_ble_eq_true rfl) dc_C_part_31 rfl ?_
          refine lv_astore_n (lv' := [(3, .ref (ad 14 k)), (2, .ref (ad 14 i)), (0, .ref (ad 0 0)), (1, .int (jI ((i : Int))))]) X.1 X.2.1 dc_C_part_34 rfl hl (by decide) rfl (fun ls hl => ?_)
          refine lv_aload_n X.1 X.2.1 dc_C_part_35 rfl (lv_at hl 0 rfl) ?_
          refine lv_ifnull X.1 X.2.1 dc_C_part_36 ?_
          refine lv_aload_n X.1 X.2.1 dc_C_part_39 rfl (lv_at hl 2 rfl) ?_
          refine lv_aload_n X.1 X.2.1 dc_C_part_40 rfl (lv_at hl 0 rfl) ?_
          refine lv_aload_n X.1 X.2.1 dc_C_part_41 rfl (lv_at hl 1 rfl) ?_
          refine cx_cVM (As := [.ref (ad 14 k), .ref (ad 14 i)]) (rest := []) X B kc_C_carryOver gm_C_93 (c_C_carryOver l u _ ad (op_out S i) sc hj.1 i k hi hk hki (hj.2 k hf hk hki)) (wC_0 u ad (op_out S i) sc) rfl rfl ⟨(Nat.le_of_ble_eq_true rfl), (Nat.le_of_ble_eq_true rfl)⟩ ⟨(Nat.le_of_ble_eq_true rfl), (Nat.le_of_ble_eq_true rfl)⟩ rfl hl.1 (Nat.le_of_ble_eq_true rfl) dc_C_part_42 rfl (fun H locs w' hw B => ?_)
          subst hw
          have B : cx_B u (cx_A (wC u ad S sc) sz) (wC u ad (op_ca S i) sc) s H locs := by rw [eca]; exact B
          have hca : cs_I (op_ca S i) := by rw [eca]; exact hj.2 k hf hk hki _ (by omega)
          have eq : ∀ f x y, f ≠ 21 → f ≠ 22 → op_ca S i f x y = S f x y := fun f x y h1 h2 => op_ca_e S i h1 h2
          have hi2 : (i : Int) < op_ca S i 0 0 0 := by rw [eq 0 0 0 (by decide) (by decide)]; exact hi
          have hwc := wC_14 u ad (op_ca S i) sc hi2
          simp only [eq 12 i 0 (by decide) (by decide), eq 13 i 0 (by decide) (by decide), eq 14 i 0 (by decide) (by decide), eq 15 i 0 (by decide) (by decide), eq 16 i 0 (by decide) (by decide), eq 17 i 0 (by decide) (by decide), eq 18 i 0 (by decide) (by decide)] at hwc
          refine lv_aload_n X.1 X.2.1 dc_C_part_45 rfl (lv_at hl 1 rfl) ?_
          refine cx_iconst X dc_C_part_46 ?_
          refine cx_put (v := .int (jI (1))) X B hwc rfl uw_S ft_S fo_S fn_S 5 (by decide) gf_C_69 rfl (fo_S 5 (by decide)) (by decide +kernel) rfl (Nat.le_of_ble_eq_true rfl) dc_C_part_47 (fun H locs B => ?_)
          have B : cx_B u (cx_A (wC u ad S sc) sz) (cx_up (wC u ad (op_ca S i) sc) 14 i (ad 14 i, .inr (2, [.int (jI ((i : Int))), .long (jL (S 12 i 0)), .ref (ad 15 i), .ref (ad 16 i), .long (jL (S 13 i 0)), .int (jI (1)), .int (jI (S 15 i 0)), .int (jI (S 16 i 0)), .long (jL (S 17 i 0)), .long (jL (S 18 i 0)), .long (jL ((op_ca S i) 22 i 0))]))) s H locs := B
          have hQ : 0 ≤ (i : Int) ∧ (i : Int) < S 0 0 0 ∧ S 14 (i : Int).toNat 0 = 0 ∧ 1 ≤ cs_sum (S 20 (i : Int).toNat) 12 := by (try simp only [cs_nn]); omega
          have hG : cx_up (wC u ad (op_ca S i) sc) 14 i (ad 14 i, .inr (2, [.int (jI ((i : Int))), .long (jL (S 12 i 0)), .ref (ad 15 i), .ref (ad 16 i), .long (jL (S 13 i 0)), .int (jI (1)), .int (jI (S 15 i 0)), .int (jI (S 16 i 0)), .long (jL (S 17 i 0)), .long (jL (S 18 i 0)), .long (jL ((op_ca S i) 22 i 0))])) = wC u ad (op_part S (i : Int)) sc := by
            rw [op_part, if_pos hQ, cs_nn]
            have eq12 := eq 12 i 0 (by decide) (by decide)
            have eq13 := eq 13 i 0 (by decide) (by decide)
            have eq15 := eq 15 i 0 (by decide) (by decide)
            have eq16 := eq 16 i 0 (by decide) (by decide)
            have eq17 := eq 17 i 0 (by decide) (by decide)
            have eq18 := eq 18 i 0 (by decide) (by decide)
            funext k j
            match k with
            | 0 => by_cases hz : j = 0 <;> simp [cx_up, wC, cs_u, hz, hi2, eq12, eq13, eq15, eq16, eq17, eq18]
            | 1 => by_cases hz : j = 0 <;> simp [cx_up, wC, cs_u, hz, hi2, eq12, eq13, eq15, eq16, eq17, eq18]
            | 2 => by_cases hz : j = 0 <;> simp [cx_up, wC, cs_u, hz, hi2, eq12, eq13, eq15, eq16, eq17, eq18]
            | 3 => by_cases hz : j = 0 <;> simp [cx_up, wC, cs_u, hz, hi2, eq12, eq13, eq15, eq16, eq17, eq18]
            | 4 => by_cases hz : j = 0 <;> simp [cx_up, wC, cs_u, hz, hi2, eq12, eq13, eq15, eq16, eq17, eq18]
            | 5 => by_cases hz : j = 0 <;> simp [cx_up, wC, cs_u, hz, hi2, eq12, eq13, eq15, eq16, eq17, eq18]
            | 6 => by_cases hz : j = 0 <;> simp [cx_up, wC, cs_u, hz, hi2, eq12, eq13, eq15, eq16, eq17, eq18]
            | 7 => by_cases hz : j = 0 <;> simp [cx_up, wC, cs_u, hz, hi2, eq12, eq13, eq15, eq16, eq17, eq18]
            | 8 => by_cases hz : j = 0 <;> simp [cx_up, wC, cs_u, hz, hi2, eq12, eq13, eq15, eq16, eq17, eq18]
            | 9 => by_cases hz : j = 0 <;> simp [cx_up, wC, cs_u, hz, hi2, eq12, eq13, eq15, eq16, eq17, eq18]
            | 10 => by_cases hz : j = 0 <;> simp [cx_up, wC, cs_u, hz, hi2, eq12, eq13, eq15, eq16, eq17, eq18]
            | 11 => by_cases hz : j = 0 <;> simp [cx_up, wC, cs_u, hz, hi2, eq12, eq13, eq15, eq16, eq17, eq18]
            | 12 => by_cases hz : j = 0 <;> simp [cx_up, wC, cs_u, hz, hi2, eq12, eq13, eq15, eq16, eq17, eq18]
            | 13 => by_cases hz : j = 0 <;> simp [cx_up, wC, cs_u, hz, hi2, eq12, eq13, eq15, eq16, eq17, eq18]
            | 14 => by_cases hj0 : j = i <;> simp [cx_up, wC, cs_u, hi2, eq12, eq13, eq15, eq16, eq17, eq18, hj0]
            | 15 => by_cases hj0 : j = i <;> simp [cx_up, wC, cs_u, hi2, eq12, eq13, eq15, eq16, eq17, eq18, hj0]
            | 16 => by_cases hj0 : j = i <;> simp [cx_up, wC, cs_u, hi2, eq12, eq13, eq15, eq16, eq17, eq18, hj0]
            | k + 17 => simp [cx_up, wC]
          have hi3 : (i : Int) < (op_part S (i : Int)) 0 0 0 := by rw [op_part, if_pos hQ, cs_nn]; simpa [cs_u] using hi2
          have B : cx_B u (cx_A (wC u ad S sc) sz) (wC u ad (op_part S (i : Int)) sc) s H locs := by rw [← hG]; exact B
          have e21 : (op_part S (i : Int)) 21 i = (op_ca S i) 21 i := by rw [op_part, if_pos hQ, cs_nn]; funext z; simp [cs_u]
          refine lv_aload_n X.1 X.2.1 dc_C_part_50 rfl (lv_at hl 1 rfl) ?_
          refine cx_cVN (r := .int (jI (cs_cnt ((op_part S (i : Int)) 21 i) 12))) (As := []) (rest := []) X B kc_S_countShares gm_C_97 (c_S_countShares l u ad (op_part S (i : Int)) sc i hi3 (fun h => by rw [e21]; have := hca.2.2.2.2.2.1 i h; omega)) (fun _ _ _ h => h) (wC_14 u ad (op_part S (i : Int)) sc hi3) rfl rfl ⟨(Nat.le_of_ble_eq_true rfl), (Nat.le_of_ble_eq_true rfl)⟩ ⟨(Nat.le_of_ble_eq_true rfl), (Nat.le_of_ble_eq_true rfl)⟩ rfl hl.1 (Nat.le_of_ble_eq_true rfl) dc_C_part_51 rfl ?_
          exact cx_iretM X B hsz hr hlk (Nat.le_of_ble_eq_true rfl) (Nat.le_of_ble_eq_true rfl) (by rw [cs_partQ, if_pos hQ, e21]; rfl) (rfl) dc_C_part_54
      · rw [if_neg c_4] at B
        refine cx_iconst X dc_C_part_24 ?_
        have hQ : ¬ (0 ≤ (i : Int) ∧ (i : Int) < S 0 0 0 ∧ S 14 (i : Int).toNat 0 = 0 ∧ 1 ≤ cs_sum (S 20 (i : Int).toNat) 12) := by (try simp only [cs_nn]); omega
        exact cx_iretM X B hsz hr hlk (Nat.le_of_ble_eq_true rfl) (Nat.le_of_ble_eq_true rfl) (by rw [cs_partQ, if_neg hQ]) (by rw [op_part, if_neg hQ]) dc_C_part_25
  · refine cx_cVN (As := [.int (jI (a))]) (rest := []) X B kc_C_findStock gm_C_62 (c_C_findStock_0 l u ad S sc hI a (by omega) (by omega) hs_1) (fun _ _ _ h => h) (wC_0 u ad S sc) rfl rfl ⟨(Nat.le_of_ble_eq_true rfl), (Nat.le_of_ble_eq_true rfl)⟩ ⟨(Nat.le_of_ble_eq_true rfl), (Nat.le_of_ble_eq_true rfl)⟩ rfl hl.1 (Nat.le_of_ble_eq_true rfl) dc_C_part_2 rfl ?_
    refine lv_astore_nN (lv' := [(2, .null), (0, .ref (ad 0 0)), (1, .int (jI (a)))]) X.1 X.2.1 dc_C_part_5 rfl hl (by decide) rfl (fun ls hl => ?_)
    refine lv_aload_nN X.1 X.2.1 dc_C_part_6 rfl (lv_at hl 0 rfl) ?_
    refine lv_ifnullN (tgt := 24) X.1 X.2.1 dc_C_part_7 (by decide) ?_
    refine cx_iconst X dc_C_part_24 ?_
    have hQ : ¬ (0 ≤ a ∧ a < S 0 0 0 ∧ S 14 a.toNat 0 = 0 ∧ 1 ≤ cs_sum (S 20 a.toNat) 12) := by (try simp only [cs_nn]); omega
    exact cx_iretM X B hsz hr hlk (Nat.le_of_ble_eq_true rfl) (Nat.le_of_ble_eq_true rfl) (by rw [cs_partQ, if_neg hQ]) (by rw [op_part, if_neg hQ]) dc_C_part_25
