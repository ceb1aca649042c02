def cs_H (S : cs_S) : Prop := ∀ (o : Int) (j : Nat), 0 ≤ cs_hold S o 9 j ∧ cs_hold S o 9 j ≤ 1000000000000000000
def cs_oth (S : cs_S) (a : Int) (b : Nat) : Nat → Int := cs_sum (fun i => if (i : Int) = a then 0 else S 11 i b)
theorem cs_oth_s (S : cs_S) (a : Int) (b n : Nat) : cs_oth S a b (n + 1) = cs_oth S a b n + (if (n : Int) = a then 0 else S 11 n b) := rfl
theorem cs_oth_b {S : cs_S} (hI : cs_I S) (a : Int) (b n : Nat) : 0 ≤ cs_oth S a b n ∧ cs_oth S a b n ≤ 100 * (n : Int) := by
  have := cs_sum_b (f := fun i => if (i : Int) = a then 0 else S 11 i b) (a := 0) (b := 100) (n := n) (fun k _ => by
    have h4 := hI.2.2.2.1 k b
    show 0 ≤ (if (k : Int) = a then 0 else S 11 k b) ∧ (if (k : Int) = a then 0 else S 11 k b) ≤ 100
    split <;> omega)
  unfold cs_oth
  omega
def op_setp (S : cs_S) (a b : Nat) (x : Int) : cs_S := if x + cs_oth S (a : Int) b 10 ≤ 100 then cs_u S 11 a b x else S
theorem cs_pf (S : cs_S) {a b : Nat} (hb : b < 10) (x : Int) : (fun z_ => jI (va_up (fun z_ => S 11 (z_ / 10) (z_ % 10)) (a * 10 + b) x z_)) = fun z_ => jI (cs_u S 11 a b x 11 (z_ / 10) (z_ % 10)) := by
  funext z
  by_cases hq : z = a * 10 + b
  · simp [va_upE, cs_u, hq, show (a * 10 + b) / 10 = a by omega, show (a * 10 + b) % 10 = b by omega]
  · have hn : ¬ (z / 10 = a ∧ z % 10 = b) := by omega
    simp [va_upE, cs_u, hq, hn]
theorem wC_p11 (u : cx_U) (ad : Nat → Nat → Nat) (S : cs_S) (sc : Nat → Nat → Int) {a b : Nat} (hb : b < 10) (x : Int) : cx_up (wC u ad S sc) 10 0 (ad 10 0, .inl (u.2 0, 100, .inl (fun z_ => jI (va_up (fun z_ => S 11 (z_ / 10) (z_ % 10)) (a * 10 + b) x z_)))) = wC u ad (cs_u S 11 a b x) sc := by
  rw [cs_pf S hb x]
  funext k j
  match k with
  | 0 => by_cases hz : j = 0 <;> simp [cx_up, wC, cs_u, hz]
  | 1 => by_cases hz : j = 0 <;> simp [cx_up, wC, cs_u, hz]
  | 2 => by_cases hz : j = 0 <;> simp [cx_up, wC, cs_u, hz]
  | 3 => by_cases hz : j = 0 <;> simp [cx_up, wC, cs_u, hz]
  | 4 => by_cases hz : j = 0 <;> simp [cx_up, wC, cs_u, hz]
  | 5 => by_cases hz : j = 0 <;> simp [cx_up, wC, cs_u, hz]
  | 6 => by_cases hz : j = 0 <;> simp [cx_up, wC, cs_u, hz]
  | 7 => by_cases hz : j = 0 <;> simp [cx_up, wC, cs_u, hz]
  | 8 => by_cases hz : j = 0 <;> simp [cx_up, wC, cs_u, hz]
  | 9 => by_cases hz : j = 0 <;> simp [cx_up, wC, cs_u, hz]
  | 10 => by_cases hz : j = 0 <;> simp [cx_up, wC, cs_u, hz]
  | 11 => by_cases hz : j = 0 <;> simp [cx_up, wC, cs_u, hz]
  | 12 => by_cases hz : j = 0 <;> simp [cx_up, wC, cs_u, hz]
  | 13 => by_cases hz : j = 0 <;> simp [cx_up, wC, cs_u, hz]
  | 14 => by_cases hz : j = 0 <;> simp [cx_up, wC, cs_u, hz]
  | 15 => by_cases hz : j = 0 <;> simp [cx_up, wC, cs_u, hz]
  | 16 => by_cases hz : j = 0 <;> simp [cx_up, wC, cs_u, hz]
  | k + 17 => simp [cx_up, wC]
set_option maxHeartbeats 4000000 in
set_option maxRecDepth 100000 in
theorem c_O_setPart (l : Launch) (u : cx_U) (sz : Nat) (ad : Nat → Nat → Nat) (S : cs_S) (sc : Nat → Nat → Int) (hI : cs_I S) (a b : Nat) (ha : a < 10) (hb : b < 10) (x : Int) (x1 : 0 ≤ x) (x2 : x ≤ 100) : cx_M l u mn_O_setPart bc_O_setPart 6 (some .boolean) 0 0 [.ref (ad 9 0), .int (jI ((a : Int))), .int (jI ((b : Int))), .int (jI (x))] (wC u ad S sc) sz (some (.int (jI (jB (x + cs_oth S (a : Int) b 10 ≤ 100))))) (fun w' => w' = wC u ad (op_setp S a b x) sc) 0 0 := by
  refine cx_M.of (by decide +kernel) (Nat.le_of_ble_eq_true rfl) ?_
  intro p e s m args below meth c ls hsz X hr hlk hin B hl
  have X : CallFix p m c bc_O_setPart 6 s args GW "CatchShares$Owners" := X
  have hl : lv_has ls 6 [(0, .ref (ad 9 0)), (1, .int (jI ((a : Int)))), (2, .int (jI ((b : Int)))), (3, .int (jI (x)))] := hl
  refine lv_iload_n X.1 X.2.1 dc_O_setPart_0 rfl (lv_at hl 3 rfl) ?_
  refine lv_istore (lv' := [(4, .int (jI (x))), (0, .ref (ad 9 0)), (1, .int (jI ((a : Int)))), (2, .int (jI ((b : Int)))), (3, .int (jI (x)))]) X.1 X.2.1 dc_O_setPart_1 hl (by decide) rfl (fun ls hl => ?_)
  refine cx_iconst X dc_O_setPart_3 ?_
  refine lv_istore (lv' := [(5, .int (jI (0))), (4, .int (jI (x))), (0, .ref (ad 9 0)), (1, .int (jI ((a : Int)))), (2, .int (jI ((b : Int)))), (3, .int (jI (x)))]) X.1 X.2.1 dc_O_setPart_4 hl (by decide) rfl (fun ls hl => ?_)
  have lp_1 : ∀ (n_2 i : Nat) (ls : Array Slot) (H : Heap) (locs : List Loc) , (i : Int) ≤ 10 → 10 - (i : Int) < (n_2 : Int) → cx_B u (cx_A (wC u ad S sc) sz) (wC u ad S sc) s H locs → lv_has ls 6 [(0, .ref (ad 9 0)), (1, .int (jI ((a : Int)))), (2, .int (jI ((b : Int)))), (3, .int (jI (x))), (4, .int (jI (x + cs_oth S (a : Int) b i))), (5, .int (jI ((i : Int))))] → W p l e (cx_R 0 0 0 0) s m args below meth c H locs 0 0 (MQ below (cx_Q u (wC u ad S sc) sz (some (.int (jI (jB (x + cs_oth S (a : Int) b 10 ≤ 100))))) (fun w' => w' = wC u ad (op_setp S a b x) sc)) args s 0 0 (cx_A (wC u ad S sc) sz)) (F0 m 6 ls []) := by
    intro n_2
    induction n_2 with
    | zero => intro i ls H locs  hi_4 hn_5; exfalso; omega
    | succ n_2 ih_3 =>
      intro i ls H locs  hi_4 hn_5 B hl
      have hob := cs_oth_b hI (a : Int) b i
      refine lv_iload X.1 X.2.1 dc_O_setPart_6 (lv_at hl 5 rfl) ?_
      refine cx_bipush X dc_O_setPart_8 (by decide +kernel) ?_
      refine cx_icmp_ge (tgt := 42) X (by omega) (by omega) (by omega) (by omega) dc_O_setPart_10 (by decide) (fun c_6 => ?_) (fun c_6 => ?_)
      · refine lv_iload X.1 X.2.1 dc_O_setPart_42 (lv_at hl 4 rfl) ?_
        refine cx_bipush X dc_O_setPart_44 (by decide +kernel) ?_
        refine cx_icmp_le (tgt := 51) X (by omega) (by omega) (by omega) (by omega) dc_O_setPart_46 (by decide) (fun c_7 => ?_) (fun c_7 => ?_)
        · refine lv_aload_n X.1 X.2.1 dc_O_setPart_51 rfl (lv_at hl 0 rfl) ?_
          refine cx_get (v := .ref (ad 10 0)) X B (wC_9 u ad S sc) rfl uw_O 0 (by decide) gf_O_9 rfl dc_O_setPart_52 ?_
          refine lv_iload_n X.1 X.2.1 dc_O_setPart_55 rfl (lv_at hl 1 rfl) ?_
          refine cx_bipush X dc_O_setPart_56 (by decide +kernel) ?_
          refine cx_imul X dc_O_setPart_58 ?_
          refine lv_iload_n X.1 X.2.1 dc_O_setPart_59 rfl (lv_at hl 2 rfl) ?_
          refine cx_iadd X dc_O_setPart_60 ?_
          refine lv_iload_n X.1 X.2.1 dc_O_setPart_61 rfl (lv_at hl 3 rfl) ?_
          refine cx_iast X B (wC_10 u ad S sc) ((a * 10) + b) (by omega) (by omega) (by decide) dc_O_setPart_62 (fun H locs B => ?_)
          have B : cx_B u (cx_A (wC u ad S sc) sz) (cx_up (wC u ad S sc) 10 0 (ad 10 0, .inl (u.2 0, 100, .inl (fun z_ => jI (va_up (fun z_ => S 11 (z_ / 10) (z_ % 10)) ((a * 10) + b) x z_))))) s H locs := B
          refine cx_iconst X dc_O_setPart_63 ?_
          have hi10 : i = 10 := by omega
          subst hi10
          have hG : cx_up (wC u ad S sc) 10 0 (ad 10 0, .inl (u.2 0, 100, .inl (fun z_ => jI (va_up (fun z_ => S 11 (z_ / 10) (z_ % 10)) ((a * 10) + b) x z_)))) = wC u ad (op_setp S a b x) sc := by rw [op_setp, if_pos (by omega)]; exact wC_p11 u ad S sc hb x
          exact cx_zretM X B hsz hr hlk (Nat.le_of_ble_eq_true rfl) (Nat.le_of_ble_eq_true rfl) (by omega) (by omega) (by rw [jB_t (by omega)]) hG dc_O_setPart_64
        · refine cx_iconst X dc_O_setPart_49 ?_
          have hi10 : i = 10 := by omega
          subst hi10
          exact cx_zretM X B hsz hr hlk (Nat.le_of_ble_eq_true rfl) (Nat.le_of_ble_eq_true rfl) (by omega) (by omega) (by rw [jB_f (by omega)]) (by rw [op_setp, if_neg (by omega)]) dc_O_setPart_50
      · refine lv_iload X.1 X.2.1 dc_O_setPart_13 (lv_at hl 5 rfl) ?_
        refine lv_iload_n X.1 X.2.1 dc_O_setPart_15 rfl (lv_at hl 1 rfl) ?_
        refine cx_icmp_eq (tgt := 36) X (by omega) (by omega) (by omega) (by omega) dc_O_setPart_16 (by decide) (fun c_8 => ?_) (fun c_8 => ?_)
        · refine lv_iinc (v := jI ((i : Int) + 1)) (lv' := [(5, .int (jI ((i : Int) + 1))), (0, .ref (ad 9 0)), (1, .int (jI ((a : Int)))), (2, .int (jI ((b : Int)))), (3, .int (jI (x))), (4, .int (jI (x + cs_oth S (a : Int) b i)))]) X.1 X.2.1 dc_O_setPart_36 hl (k := 5) rfl (jI_add _ _) (by decide) rfl (fun ls hl => ?_)
          refine lv_goto (tgt := 6) X.1 X.2.1 dc_O_setPart_39 (by decide) ?_
          have qq : x + cs_oth S (a : Int) b (i + 1) = x + cs_oth S (a : Int) b i := by rw [cs_oth_s, if_pos (by omega)]; omega
          exact ih_3 (i + 1) ls _ _  (by omega) (by omega) B (by rw [qq]; exact lv_sub hl [1, 2, 3, 4, 5, 0] rfl)
        · refine lv_iload X.1 X.2.1 dc_O_setPart_19 (lv_at hl 4 rfl) ?_
          refine lv_aload_n X.1 X.2.1 dc_O_setPart_21 rfl (lv_at hl 0 rfl) ?_
          refine cx_get (v := .ref (ad 10 0)) X B (wC_9 u ad S sc) rfl uw_O 0 (by decide) gf_O_9 rfl dc_O_setPart_22 ?_
          refine lv_iload X.1 X.2.1 dc_O_setPart_25 (lv_at hl 5 rfl) ?_
          refine cx_bipush X dc_O_setPart_27 (by decide +kernel) ?_
          refine cx_imul X dc_O_setPart_29 ?_
          refine lv_iload_n X.1 X.2.1 dc_O_setPart_30 rfl (lv_at hl 2 rfl) ?_
          refine cx_iadd X dc_O_setPart_31 ?_
          refine cx_iald X B (wC_10 u ad S sc) ((i * 10) + b) (by omega) (by omega) (by decide) dc_O_setPart_32 ?_
          rw [show ((i * 10) + b) / 10 = i by omega, show ((i * 10) + b) % 10 = b by omega]
          refine cx_iadd X dc_O_setPart_33 ?_
          refine lv_istore (lv' := [(4, .int (jI ((x + cs_oth S (a : Int) b i) + (S 11 i b)))), (0, .ref (ad 9 0)), (1, .int (jI ((a : Int)))), (2, .int (jI ((b : Int)))), (3, .int (jI (x))), (5, .int (jI ((i : Int))))]) X.1 X.2.1 dc_O_setPart_34 hl (by decide) rfl (fun ls hl => ?_)
          refine lv_iinc (v := jI ((i : Int) + 1)) (lv' := [(5, .int (jI ((i : Int) + 1))), (4, .int (jI ((x + cs_oth S (a : Int) b i) + (S 11 i b)))), (0, .ref (ad 9 0)), (1, .int (jI ((a : Int)))), (2, .int (jI ((b : Int)))), (3, .int (jI (x)))]) X.1 X.2.1 dc_O_setPart_36 hl (k := 5) rfl (jI_add _ _) (by decide) rfl (fun ls hl => ?_)
          refine lv_goto (tgt := 6) X.1 X.2.1 dc_O_setPart_39 (by decide) ?_
          have qq : x + cs_oth S (a : Int) b (i + 1) = (x + cs_oth S (a : Int) b i) + (S 11 i b) := by rw [cs_oth_s, if_neg (by omega)]; omega
          exact ih_3 (i + 1) ls _ _  (by omega) (by omega) B (by rw [qq]; exact lv_sub hl [2, 3, 4, 5, 1, 0] rfl)
  exact lp_1 ((10 : Int).toNat + 1) 0 ls _ _  (by omega) (by omega) B (by rw [show x + cs_oth S (a : Int) b 0 = x by simp [cs_oth, cs_sum]]; exact lv_sub hl [2, 3, 4, 5, 1, 0] rfl)
def cs_ownP (S : cs_S) (a b x : Int) : Prop := (0 ≤ a ∧ a < 10 ∧ 0 ≤ b ∧ b < 10 ∧ 0 ≤ x ∧ x ≤ 100) ∧ ¬ (0 < x ∧ 0 < cs_hold S b 9 a.toNat) ∧ x + cs_oth S a b.toNat 10 ≤ 100
noncomputable def op_owns (S : cs_S) (a b x : Int) : cs_S := @ite _ (cs_ownP S a b x) (Classical.propDecidable _) (cs_u S 11 a.toNat b.toNat x) S
theorem op_owns_t {S : cs_S} {a b x : Int} (h : cs_ownP S a b x) : op_owns S a b x = cs_u S 11 a.toNat b.toNat x := by unfold op_owns; exact if_pos h
theorem op_owns_f {S : cs_S} {a b x : Int} (h : ¬ cs_ownP S a b x) : op_owns S a b x = S := by unfold op_owns; exact if_neg h
set_option maxHeartbeats 4000000 in
set_option maxRecDepth 100000 in
theorem c_C_owns (l : Launch) (u : cx_U) (sz : Nat) (ad : Nat → Nat → Nat) (S : cs_S) (sc : Nat → Nat → Int) (hI : cs_I S) (hP : cs_P S) (hH : cs_H S) (a b x : Int) (a1 : -2147483648 ≤ a) (a2 : a ≤ 2147483647) (b1 : -2147483648 ≤ b) (b2 : b ≤ 2147483647) (x1 : -2147483648 ≤ x) (x2 : x ≤ 2147483647) : cx_M l u mn_C_owns bc_C_owns 4 (some .boolean) 4 129 [.ref (ad 0 0), .int (jI (a)), .int (jI (b)), .int (jI (x))] (wC u ad S sc) sz (some (.int (jI (jB (cs_ownP S a b x))))) (fun w' => ∃ sc', w' = wC u ad (op_owns S a b x) sc') 0 0 := by
  refine cx_M.of (by decide +kernel) (Nat.le_of_ble_eq_true rfl) ?_
  intro p e s m args below meth c ls hsz X hr hlk hin B hl
  have X : CallFix p m c bc_C_owns 4 s args GW "CatchShares" := X
  have hl : lv_has ls 4 [(0, .ref (ad 0 0)), (1, .int (jI (a))), (2, .int (jI (b))), (3, .int (jI (x)))] := hl
  have hI1 := hI.1
  refine lv_iload_n X.1 X.2.1 dc_C_owns_0 rfl (lv_at hl 1 rfl) ?_
  refine cx_cSN (r := .int (jI (jB (0 ≤ a ∧ a < 10)))) (As := [.int (jI (a))]) (rest := []) X B kc_C_isOwner gm_C_58 (c_C_isOwner l u _ a (by omega) (by omega)) (fun _ _ _ h => h) ⟨(Nat.le_of_ble_eq_true rfl), (Nat.le_of_ble_eq_true rfl)⟩ ⟨(Nat.le_of_ble_eq_true rfl), (Nat.le_of_ble_eq_true rfl)⟩ rfl hl.1 (Nat.le_of_ble_eq_true rfl) dc_C_owns_1 rfl ?_
  refine cx_ifeqB (tgt := 26) X dc_C_owns_4 (by decide) (fun c_1 => ?_) (fun c_1 => ?_)
  · refine cx_iconst X dc_C_owns_26 ?_
    have hQ : ¬ cs_ownP S a b x := fun q => by have q1 := q.1; omega
    exact cx_zretM X B hsz hr hlk (Nat.le_of_ble_eq_true rfl) (Nat.le_of_ble_eq_true rfl) (by omega) (by omega) (by rw [jB_f hQ]) ⟨_, by rw [op_owns_f hQ]⟩ dc_C_owns_27
  · refine lv_iload_n X.1 X.2.1 dc_C_owns_7 rfl (lv_at hl 2 rfl) ?_
    refine cx_cSN (r := .int (jI (jB (0 ≤ b ∧ b < 10)))) (As := [.int (jI (b))]) (rest := []) X B kc_C_isOwner gm_C_58 (c_C_isOwner l u _ b (by omega) (by omega)) (fun _ _ _ h => h) ⟨(Nat.le_of_ble_eq_true rfl), (Nat.le_of_ble_eq_true rfl)⟩ ⟨(Nat.le_of_ble_eq_true rfl), (Nat.le_of_ble_eq_true rfl)⟩ rfl hl.1 (Nat.le_of_ble_eq_true rfl) dc_C_owns_8 rfl ?_
    refine cx_ifeqB (tgt := 26) X dc_C_owns_11 (by decide) (fun c_2 => ?_) (fun c_2 => ?_)
    · refine cx_iconst X dc_C_owns_26 ?_
      have hQ : ¬ cs_ownP S a b x := fun q => by have q1 := q.1; omega
      exact cx_zretM X B hsz hr hlk (Nat.le_of_ble_eq_true rfl) (Nat.le_of_ble_eq_true rfl) (by omega) (by omega) (by rw [jB_f hQ]) ⟨_, by rw [op_owns_f hQ]⟩ dc_C_owns_27
    · refine lv_iload_n X.1 X.2.1 dc_C_owns_14 rfl (lv_at hl 3 rfl) ?_
      refine cx_i2l X (by omega) (by omega) dc_C_owns_15 ?_
      refine cx_lconst (a := 0) X dc_C_owns_16 (by decide +kernel) ?_
      refine cx_ldc2 (a := 100) X gk_C_142 (by decide +kernel) dc_C_owns_17 ?_
      refine cx_cSN (r := .int (jI (jB (0 ≤ x ∧ x ≤ 100)))) (As := [.long (jL (x)), .long (jL (0)), .long (jL (100))]) (rest := []) X B kc_C_isWithin gm_C_48 (c_C_isWithin l u _ x 0 100 (by omega) (by omega) (by omega) (by omega) (by omega) (by omega)) (fun _ _ _ h => h) ⟨(Nat.le_of_ble_eq_true rfl), (Nat.le_of_ble_eq_true rfl)⟩ ⟨(Nat.le_of_ble_eq_true rfl), (Nat.le_of_ble_eq_true rfl)⟩ rfl hl.1 (Nat.le_of_ble_eq_true rfl) dc_C_owns_20 rfl ?_
      refine cx_ifneB (tgt := 28) X dc_C_owns_23 (by decide) (fun c_3 => ?_) (fun c_3 => ?_)
      · obtain ⟨i, rfl⟩ : ∃ i : Nat, a = (i : Int) := ⟨a.toNat, by omega⟩
        obtain ⟨j, rfl⟩ : ∃ j : Nat, b = (j : Int) := ⟨b.toNat, by omega⟩
        have hH1 := hH (j : Int) i
        refine lv_iload_n X.1 X.2.1 dc_C_owns_28 rfl (lv_at hl 3 rfl) ?_
        refine cx_if_le (tgt := 45) X (by omega) (by omega) dc_C_owns_29 (by decide) (fun c_4 => ?_) (fun c_4 => ?_)
        · refine lv_aload_n X.1 X.2.1 dc_C_owns_45 rfl (lv_at hl 0 rfl) ?_
          refine cx_get (v := .ref (ad 9 0)) X B (wC_0 u ad S sc) rfl uw_C 6 (by decide) gf_C_32 rfl dc_C_owns_46 ?_
          refine lv_iload_n X.1 X.2.1 dc_C_owns_49 rfl (lv_at hl 1 rfl) ?_
          refine lv_iload_n X.1 X.2.1 dc_C_owns_50 rfl (lv_at hl 2 rfl) ?_
          refine lv_iload_n X.1 X.2.1 dc_C_owns_51 rfl (lv_at hl 3 rfl) ?_
          refine cx_cVM (As := [.int (jI ((i : Int))), .int (jI ((j : Int))), .int (jI (x))]) (rest := []) X B kc_O_setPart gm_C_148 (c_O_setPart l u _ ad S sc hI i j (by omega) (by omega) x (by omega) (by omega)) (wC_9 u ad S sc) rfl rfl ⟨(Nat.le_of_ble_eq_true rfl), (Nat.le_of_ble_eq_true rfl)⟩ ⟨(Nat.le_of_ble_eq_true rfl), (Nat.le_of_ble_eq_true rfl)⟩ rfl hl.1 (Nat.le_of_ble_eq_true rfl) dc_C_owns_52 rfl (fun H locs w' hw B => ?_)
          subst hw
          have hQ : cs_ownP S (i : Int) (j : Int) x ↔ x + cs_oth S (i : Int) j 10 ≤ 100 := ⟨fun q => q.2.2, fun q => ⟨by omega, by simp only [cs_nn]; omega, q⟩⟩
          have hG : wC u ad (op_setp S i j x) sc = wC u ad (op_owns S (i : Int) (j : Int) x) sc := by
            by_cases hq : x + cs_oth S (i : Int) j 10 ≤ 100
            · rw [op_setp, if_pos hq, op_owns_t (hQ.mpr hq)]; rfl
            · rw [op_setp, if_neg hq, op_owns_f (fun q => hq (hQ.mp q))]
          exact cx_zretM X B hsz hr hlk (Nat.le_of_ble_eq_true rfl) (Nat.le_of_ble_eq_true rfl) (jB_r _).1 (jB_r _).2 (congrArg (fun q => some (Value.int (jI q))) (jB_c hQ.symm)) ⟨_, hG⟩ dc_C_owns_55
        · refine lv_aload_n X.1 X.2.1 dc_C_owns_32 rfl (lv_at hl 0 rfl) ?_
          refine lv_iload_n X.1 X.2.1 dc_C_owns_33 rfl (lv_at hl 2 rfl) ?_
          refine lv_iload_n X.1 X.2.1 dc_C_owns_34 rfl (lv_at hl 1 rfl) ?_
          refine cx_cVM (As := [.int (jI ((j : Int))), .int (jI ((i : Int)))]) (rest := []) X B kc_C_holdOf gm_C_144 (c_C_holdOf l u _ ad S sc hI hP (j : Int) i (by omega) (by omega) (by omega)) (wC_0 u ad S sc) rfl rfl ⟨(Nat.le_of_ble_eq_true rfl), (Nat.le_of_ble_eq_true rfl)⟩ ⟨(Nat.le_of_ble_eq_true rfl), (Nat.le_of_ble_eq_true rfl)⟩ rfl hl.1 (Nat.le_of_ble_eq_true rfl) dc_C_owns_35 rfl (fun H locs w' hw B => ?_)
          obtain ⟨sc1, rfl⟩ := hw
          refine cx_lconst (a := 0) X dc_C_owns_38 (by decide +kernel) ?_
          refine cx_lcmp_le (tgt := 45) X (by omega) (by omega) (by omega) (by omega) dc_C_owns_39 dc_C_owns_40 (by decide) (fun c_5 => ?_) (fun c_5 => ?_)
          · refine lv_aload_n X.1 X.2.1 dc_C_owns_45 rfl (lv_at hl 0 rfl) ?_
            refine cx_get (v := .ref (ad 9 0)) X B (wC_0 u ad S sc1) rfl uw_C 6 (by decide) gf_C_32 rfl dc_C_owns_46 ?_
            refine lv_iload_n X.1 X.2.1 dc_C_owns_49 rfl (lv_at hl 1 rfl) ?_
            refine lv_iload_n X.1 X.2.1 dc_C_owns_50 rfl (lv_at hl 2 rfl) ?_
            refine lv_iload_n X.1 X.2.1 dc_C_owns_51 rfl (lv_at hl 3 rfl) ?_
            refine cx_cVM (As := [.int (jI ((i : Int))), .int (jI ((j : Int))), .int (jI (x))]) (rest := []) X B kc_O_setPart gm_C_148 (c_O_setPart l u _ ad S sc1 hI i j (by omega) (by omega) x (by omega) (by omega)) (wC_9 u ad S sc1) rfl rfl ⟨(Nat.le_of_ble_eq_true rfl), (Nat.le_of_ble_eq_true rfl)⟩ ⟨(Nat.le_of_ble_eq_true rfl), (Nat.le_of_ble_eq_true rfl)⟩ rfl hl.1 (Nat.le_of_ble_eq_true rfl) dc_C_owns_52 rfl (fun H locs w' hw B => ?_)
            subst hw
            have hQ : cs_ownP S (i : Int) (j : Int) x ↔ x + cs_oth S (i : Int) j 10 ≤ 100 := ⟨fun q => q.2.2, fun q => ⟨by omega, by simp only [cs_nn]; omega, q⟩⟩
            have hG : wC u ad (op_setp S i j x) sc1 = wC u ad (op_owns S (i : Int) (j : Int) x) sc1 := by
              by_cases hq : x + cs_oth S (i : Int) j 10 ≤ 100
              · rw [op_setp, if_pos hq, op_owns_t (hQ.mpr hq)]; rfl
              · rw [op_setp, if_neg hq, op_owns_f (fun q => hq (hQ.mp q))]
            exact cx_zretM X B hsz hr hlk (Nat.le_of_ble_eq_true rfl) (Nat.le_of_ble_eq_true rfl) (jB_r _).1 (jB_r _).2 (congrArg (fun q => some (Value.int (jI q))) (jB_c hQ.symm)) ⟨_, hG⟩ dc_C_owns_55
          · refine cx_iconst X dc_C_owns_43 ?_
            have hQ : ¬ cs_ownP S (i : Int) (j : Int) x := fun q => q.2.1 (by simp only [cs_nn]; omega)
            exact cx_zretM X B hsz hr hlk (Nat.le_of_ble_eq_true rfl) (Nat.le_of_ble_eq_true rfl) (by omega) (by omega) (by rw [jB_f hQ]) ⟨_, by rw [op_owns_f hQ]⟩ dc_C_owns_44
      · refine cx_iconst X dc_C_owns_26 ?_
        have hQ : ¬ cs_ownP S a b x := fun q => by have q1 := q.1; omega
        exact cx_zretM X B hsz hr hlk (Nat.le_of_ble_eq_true rfl) (Nat.le_of_ble_eq_true rfl) (by omega) (by omega) (by rw [jB_f hQ]) ⟨_, by rw [op_owns_f hQ]⟩ dc_C_owns_27
def cs_upr (S : cs_S) (hd : Nat → Int) (i : Nat) : Nat → Int := cs_sum (fun h => S 20 i h * (hd ((S 5 h 0).toNat) / 1000000000))
def cs_lwr (S : cs_S) (hd : Nat → Int) (i : Nat) : Nat → Int := cs_sum (fun h => S 20 i h * (hd ((S 5 h 0).toNat) % 1000000000))
def cs_above (S : cs_S) (hd : Nat → Int) (i : Nat) : Prop := cs_sum (S 20 i) 12 * S 16 i 0 * 10000000 < cs_upr S hd i (S 1 0 0).toNat + cs_lwr S hd i (S 1 0 0).toNat / 1000000000 ∨ (cs_upr S hd i (S 1 0 0).toNat + cs_lwr S hd i (S 1 0 0).toNat / 1000000000 = cs_sum (S 20 i) 12 * S 16 i 0 * 10000000 ∧ 0 < cs_lwr S hd i (S 1 0 0).toNat % 1000000000)
theorem cs_above_c {S : cs_S} (hI : cs_I S) {f g : Nat → Int} (h : ∀ j, j < 10 → f j = g j) (i : Nat) : cs_above S f i ↔ cs_above S g i := by
  have e1 : cs_upr S f i (S 1 0 0).toNat = cs_upr S g i (S 1 0 0).toNat := cs_sum_c (fun k _ => by
    have := hI.2.1 k
    show S 20 i k * (f ((S 5 k 0).toNat) / 1000000000) = S 20 i k * (g ((S 5 k 0).toNat) / 1000000000)
    rw [h _ (by omega)])
  have e2 : cs_lwr S f i (S 1 0 0).toNat = cs_lwr S g i (S 1 0 0).toNat := cs_sum_c (fun k _ => by
    have := hI.2.1 k
    show S 20 i k * (f ((S 5 k 0).toNat) % 1000000000) = S 20 i k * (g ((S 5 k 0).toNat) % 1000000000)
    rw [h _ (by omega)])
  unfold cs_above
  rw [e1, e2]
theorem cs_term_b {x y : Int} (h1 : 0 ≤ x) (h2 : x ≤ 1000000) (h3 : 0 ≤ y) (h4 : y ≤ 1000000000) : 0 ≤ x * y ∧ x * y ≤ 1000000000000000 := by
  refine ⟨Int.mul_nonneg h1 h3, ?_⟩
  have := Int.mul_le_mul h2 h4 h3 (by omega : (0 : Int) ≤ 1000000)
  omega
theorem cs_upr_b {S : cs_S} (hI : cs_I S) {hd : Nat → Int} (hf : ∀ q, q < 10 → 0 ≤ hd q ∧ hd q ≤ 1000000000000000000) (i n : Nat) : 0 ≤ cs_upr S hd i n ∧ cs_upr S hd i n ≤ 1000000000000000 * (n : Int) := by
  have := cs_sum_b (f := fun h => S 20 i h * (hd ((S 5 h 0).toNat) / 1000000000)) (a := 0) (b := 1000000000000000) (n := n) (fun k _ => by
    have h1 := hI.2.1 k
    have h2 := hI.2.2.2.2.2.1 i k
    have h3 := hf ((S 5 k 0).toNat) (by omega)
    exact cs_term_b (by omega) (by omega) (by omega) (by omega))
  unfold cs_upr
  omega
theorem cs_lwr_b {S : cs_S} (hI : cs_I S) {hd : Nat → Int} (hf : ∀ q, q < 10 → 0 ≤ hd q ∧ hd q ≤ 1000000000000000000) (i n : Nat) : 0 ≤ cs_lwr S hd i n ∧ cs_lwr S hd i n ≤ 1000000000000000 * (n : Int) := by
  have := cs_sum_b (f := fun h => S 20 i h * (hd ((S 5 h 0).toNat) % 1000000000)) (a := 0) (b := 1000000000000000) (n := n) (fun k _ => by
    have h1 := hI.2.1 k
    have h2 := hI.2.2.2.2.2.1 i k
    have h3 := hf ((S 5 k 0).toNat) (by omega)
    exact cs_term_b (by omega) (by omega) (by omega) (by omega))
  unfold cs_lwr
  omega
theorem cs_ws_b {S : cs_S} (hI : cs_I S) (i : Nat) : 0 ≤ cs_sum (S 20 i) 12 ∧ cs_sum (S 20 i) 12 ≤ 12000000 := by
  have := cs_sum_b (f := S 20 i) (a := 0) (b := 1000000) (n := 12) (fun k _ => by have := hI.2.2.2.2.2.1 i k; omega)
  omega
theorem cs_lim_b {S : cs_S} (hI : cs_I S) (i : Nat) : 0 ≤ cs_sum (S 20 i) 12 * S 16 i 0 ∧ cs_sum (S 20 i) 12 * S 16 i 0 ≤ 1200000000 := by
  have h1 := cs_ws_b hI i
  have h2 := hI.2.2.2.2.1 i
  refine ⟨Int.mul_nonneg h1.1 (by omega), ?_⟩
  have := Int.mul_le_mul h1.2 (show S 16 i 0 ≤ 100 by omega) (by omega) (by omega : (0 : Int) ≤ 12000000)
  omega
set_option maxHeartbeats 4000000 in
set_option maxRecDepth 100000 in
theorem c_C_isAboveCap (l : Launch) (u : cx_U) (ad : Nat → Nat → Nat) (S : cs_S) (sc : Nat → Nat → Int) (hI : cs_I S) (hf : ∀ q, q < 10 → 0 ≤ sc 2 q ∧ sc 2 q ≤ 1000000000000000000) (i : Nat) (hi : (i : Int) < S 0 0 0) : cx_N l u mn_C_isAboveCap bc_C_isAboveCap 9 (some .boolean) 2 43 [.ref (ad 0 0), .ref (ad 14 i)] (wC u ad S sc) (.int (jI (jB (cs_above S (sc 2) i)))) := by
  refine cx_N.of (by decide +kernel) (Nat.le_of_ble_eq_true rfl) ?_
  intro p e s m args below meth c ls A X hr hlk B hl
  have X : CallFix p m c bc_C_isAboveCap 9 s args GW "CatchShares" := X
  have hl : lv_has ls 9 [(0, .ref (ad 0 0)), (1, .ref (ad 14 i))] := hl
  have hI1 := hI.1
  have hI2 := hI.2.1
  have hI5 := hI.2.2.2.2.1
  have hlim := cs_lim_b hI i
  refine cx_lconst (a := 0) X dc_C_isAboveCap_0 (by decide +kernel) ?_
  refine lv_lstore_n (lv' := [(2, .long (jL (0))), (0, .ref (ad 0 0)), (1, .ref (ad 14 i))]) X.1 X.2.1 dc_C_isAboveCap_1 rfl hl (by decide) rfl (fun ls hl => ?_)
  refine cx_lconst (a := 0) X dc_C_isAboveCap_2 (by decide +kernel) ?_
  refine lv_lstore (lv' := [(4, .long (jL (0))), (2, .long (jL (0))), (0, .ref (ad 0 0)), (1, .ref (ad 14 i))]) X.1 X.2.1 dc_C_isAboveCap_3 hl (by decide) rfl (fun ls hl => ?_)
  refine cx_iconst X dc_C_isAboveCap_5 ?_
  refine lv_istore (lv' := [(6, .int (jI (0))), (4, .long (jL (0))), (2, .long (jL (0))), (0, .ref (ad 0 0)), (1, .ref (ad 14 i))]) X.1 X.2.1 dc_C_isAboveCap_6 hl (by decide) rfl (fun ls hl => ?_)
  have lp_1 : ∀ (n_2 h : Nat) (ls : Array Slot) , (h : Int) ≤ S 1 0 0 → S 1 0 0 - (h : Int) < (n_2 : Int) → lv_has ls 9 [(0, .ref (ad 0 0)), (1, .ref (ad 14 i)), (2, .long (jL (cs_upr S (sc 2) i h))), (4, .long (jL (cs_lwr S (sc 2) i h))), (6, .int (jI ((h : Int))))] → W p l e (cx_R 2 43 0 0) s m args below meth c s.heap [] 0 0 (MQ below (fun _ st_ oc_ t_ => oc_ = .returned (some (.int (jI (jB (cs_above S (sc 2) i))))) ∧ t_.heap = st_.heap) args s 0 0 (fun _ => False)) (F0 m 8 ls []) := by
    intro n_2
    induction n_2 with
    | zero => intro h ls  hi_4 hn_5; exfalso; omega
    | succ n_2 ih_3 =>
      intro h ls  hi_4 hn_5 hl
      have hub := cs_upr_b hI hf i h
      have hlb := cs_lwr_b hI hf i h
      refine lv_iload X.1 X.2.1 dc_C_isAboveCap_8 (lv_at hl 4 rfl) ?_
      refine lv_aload_n X.1 X.2.1 dc_C_isAboveCap_10 rfl (lv_at hl 0 rfl) ?_
      refine cx_get (v := .int (jI (S 1 0 0))) X B (wC_0 u ad S sc) rfl uw_C 4 (by decide) gf_C_55 rfl dc_C_isAboveCap_11 ?_
      refine cx_icmp_ge (tgt := 75) X (by omega) (by omega) (by omega) (by omega) dc_C_isAboveCap_14 (by decide) (fun c_6 => ?_) (fun c_6 => ?_)
      · refine lv_lload_n X.1 X.2.1 dc_C_isAboveCap_75 rfl (lv_at hl 2 rfl) ?_
        refine lv_lload X.1 X.2.1 dc_C_isAboveCap_76 (lv_at hl 3 rfl) ?_
        refine cx_ldc2 (a := 1000000000) X gk_C_46 (by decide +kernel) dc_C_isAboveCap_78 ?_
        refine cx_ldiv X (by omega) (by omega) (by omega) (by omega) dc_C_isAboveCap_81 ?_
        refine cx_ladd X dc_C_isAboveCap_82 ?_
        refine lv_lstore_n (lv' := [(2, .long (jL ((cs_upr S (sc 2) i h) + ((cs_lwr S (sc 2) i h) / 1000000000)))), (0, .ref (ad 0 0)), (1, .ref (ad 14 i)), (4, .long (jL (cs_lwr S (sc 2) i h))), (6, .int (jI ((h : Int))))]) X.1 X.2.1 dc_C_isAboveCap_83 rfl hl (by decide) rfl (fun ls hl => ?_)
        refine lv_lload X.1 X.2.1 dc_C_isAboveCap_84 (lv_at hl 3 rfl) ?_
        refine cx_ldc2 (a := 1000000000) X gk_C_46 (by decide +kernel) dc_C_isAboveCap_86 ?_
        refine cx_lrem X (by omega) (by omega) (by omega) (by omega) dc_C_isAboveCap_89 ?_
        refine lv_lstore (lv' := [(4, .long (jL ((cs_lwr S (sc 2) i h) % 1000000000))), (2, .long (jL ((cs_upr S (sc 2) i h) + ((cs_lwr S (sc 2) i h) / 1000000000)))), (0, .ref (ad 0 0)), (1, .ref (ad 14 i)), (6, .int (jI ((h : Int))))]) X.1 X.2.1 dc_C_isAboveCap_90 hl (by decide) rfl (fun ls hl => ?_)
        refine lv_aload_n X.1 X.2.1 dc_C_isAboveCap_92 rfl (lv_at hl 3 rfl) ?_
        refine cx_cVN (r := .long (jL (cs_sum (S 20 i) 12))) (As := []) (rest := []) X B kc_S_allWeights gm_C_210 (c_S_allWeights l u ad S sc hI i hi) (fun _ _ _ h => h) (wC_14 u ad S sc hi) rfl rfl ⟨(Nat.le_of_ble_eq_true rfl), (Nat.le_of_ble_eq_true rfl)⟩ ⟨(Nat.le_of_ble_eq_true rfl), (Nat.le_of_ble_eq_true rfl)⟩ rfl hl.1 (Nat.le_of_ble_eq_true rfl) dc_C_isAboveCap_93 rfl ?_
        refine lv_aload_n X.1 X.2.1 dc_C_isAboveCap_96 rfl (lv_at hl 3 rfl) ?_
        refine cx_get (v := .int (jI (S 16 i 0))) X B (wC_14 u ad S sc hi) rfl uw_S 7 (by decide) gf_C_152 rfl dc_C_isAboveCap_97 ?_
        have r_7 := hI5 i
        refine cx_i2l X (by omega) (by omega) dc_C_isAboveCap_100 ?_
        refine cx_lmul X dc_C_isAboveCap_101 ?_
        refine cx_ldc2 (a := 10000000) X gk_C_213 (by decide +kernel) dc_C_isAboveCap_102 ?_
        refine cx_lmul X dc_C_isAboveCap_105 ?_
        refine lv_lstore (lv' := [(6, .long (jL (((cs_sum (S 20 i) 12) * (S 16 i 0)) * 10000000))), (4, .long (jL ((cs_lwr S (sc 2) i h) % 1000000000))), (2, .long (jL ((cs_upr S (sc 2) i h) + ((cs_lwr S (sc 2) i h) / 1000000000)))), (0, .ref (ad 0 0)), (1, .ref (ad 14 i))]) X.1 X.2.1 dc_C_isAboveCap_106 hl (by decide) rfl (fun ls hl => ?_)
        refine lv_lload_n X.1 X.2.1 dc_C_isAboveCap_108 rfl (lv_at hl 2 rfl) ?_
        refine lv_lload X.1 X.2.1 dc_C_isAboveCap_109 (lv_at hl 0 rfl) ?_
        refine cx_lcmp_gt (tgt := 129) X (by omega) (by omega) (by omega) (by omega) dc_C_isAboveCap_111 dc_C_isAboveCap_112 (by decide) (fun c_8 => ?_) (fun c_8 => ?_)
        · refine cx_iconst X dc_C_isAboveCap_129 ?_
          refine lv_goto (tgt := 134) X.1 X.2.1 dc_C_isAboveCap_130 (by decide) ?_
          have hh : (S 1 0 0).toNat = h := by omega
          exact cx_zretN X hr hlk (by omega) (by omega) (by rw [jB_t (by unfold cs_above; rw [hh]; omega)]) dc_C_isAboveCap_134
        · refine lv_lload_n X.1 X.2.1 dc_C_isAboveCap_115 rfl (lv_at hl 2 rfl) ?_
          refine lv_lload X.1 X.2.1 dc_C_isAboveCap_116 (lv_at hl 0 rfl) ?_
          refine cx_lcmp_ne (tgt := 133) X (by omega) (by omega) (by omega) (by omega) dc_C_isAboveCap_118 dc_C_isAboveCap_119 (by decide) (fun c_9 => ?_) (fun c_9 => ?_)
          · refine cx_iconst X dc_C_isAboveCap_133 ?_
            have hh : (S 1 0 0).toNat = h := by omega
            exact cx_zretN X hr hlk (by omega) (by omega) (by rw [jB_f (by unfold cs_above; rw [hh]; omega)]) dc_C_isAboveCap_134
          · refine lv_lload X.1 X.2.1 dc_C_isAboveCap_122 (lv_at hl 1 rfl) ?_
            refine cx_lconst (a := 0) X dc_C_isAboveCap_124 (by decide +kernel) ?_
            refine cx_lcmp_le (tgt := 133) X (by omega) (by omega) (by omega) (by omega) dc_C_isAboveCap_125 dc_C_isAboveCap_126 (by decide) (fun c_10 => ?_) (fun c_10 => ?_)
            · refine cx_iconst X dc_C_isAboveCap_133 ?_
              have hh : (S 1 0 0).toNat = h := by omega
              exact cx_zretN X hr hlk (by omega) (by omega) (by rw [jB_f (by unfold cs_above; rw [hh]; omega)]) dc_C_isAboveCap_134
            · refine cx_iconst X dc_C_isAboveCap_129 ?_
              refine lv_goto (tgt := 134) X.1 X.2.1 dc_C_isAboveCap_130 (by decide) ?_
              have hh : (S 1 0 0).toNat = h := by omega
              exact cx_zretN X hr hlk (by omega) (by omega) (by rw [jB_t (by unfold cs_above; rw [hh]; omega)]) dc_C_isAboveCap_134
      · refine lv_aload_n X.1 X.2.1 dc_C_isAboveCap_17 rfl (lv_at hl 0 rfl) ?_
        refine cx_get (v := .ref (ad 9 0)) X B (wC_0 u ad S sc) rfl uw_C 6 (by decide) gf_C_32 rfl dc_C_isAboveCap_18 ?_
        refine lv_aload_n X.1 X.2.1 dc_C_isAboveCap_21 rfl (lv_at hl 0 rfl) ?_
        refine cx_get (v := .ref (ad 2 0)) X B (wC_0 u ad S sc) rfl uw_C 2 (by decide) gf_C_15 rfl dc_C_isAboveCap_22 ?_
        refine lv_iload X.1 X.2.1 dc_C_isAboveCap_25 (lv_at hl 4 rfl) ?_
        refine cx_iald X B (wC_2 u ad S sc) (h) (by omega) (by omega) (by decide) dc_C_isAboveCap_27 ?_
        have r_11 := hI2 h
        refine cx_cVN (r := .long (jL (sc 2 ((S 5 h 0).toNat)))) (As := [.int (jI (S 5 h 0))]) (rest := []) X B kc_O_found gm_C_207 (c_O_found l u ad S sc hI (S 5 h 0) (by omega) (by omega)) (fun _ _ _ h => h) (wC_9 u ad S sc) rfl rfl ⟨(Nat.le_of_ble_eq_true rfl), (Nat.le_of_ble_eq_true rfl)⟩ ⟨(Nat.le_of_ble_eq_true rfl), (Nat.le_of_ble_eq_true rfl)⟩ rfl hl.1 (Nat.le_of_ble_eq_true rfl) dc_C_isAboveCap_28 rfl ?_
        have r_12 := hf ((S 5 h 0).toNat) (by omega)
        refine lv_lstore (lv' := [(7, .long (jL (sc 2 ((S 5 h 0).toNat)))), (0, .ref (ad 0 0)), (1, .ref (ad 14 i)), (2, .long (jL (cs_upr S (sc 2) i h))), (4, .long (jL (cs_lwr S (sc 2) i h))), (6, .int (jI ((h : Int))))]) X.1 X.2.1 dc_C_isAboveCap_31 hl (by decide) rfl (fun ls hl => ?_)
        refine lv_lload_n X.1 X.2.1 dc_C_isAboveCap_33 rfl (lv_at hl 3 rfl) ?_
        refine lv_aload_n X.1 X.2.1 dc_C_isAboveCap_34 rfl (lv_at hl 2 rfl) ?_
        refine cx_get (v := .ref (ad 15 i)) X B (wC_14 u ad S sc hi) rfl uw_S 2 (by decide) gf_C_75 rfl dc_C_isAboveCap_35 ?_
        refine lv_iload X.1 X.2.1 dc_C_isAboveCap_38 (lv_at hl 5 rfl) ?_
        refine cx_lald X B (wC_15 u ad S sc hi) (h) (by omega) (by omega) (by decide) dc_C_isAboveCap_40 ?_
        refine lv_lload X.1 X.2.1 dc_C_isAboveCap_41 (lv_at hl 0 rfl) ?_
        refine cx_ldc2 (a := 1000000000) X gk_C_46 (by decide +kernel) dc_C_isAboveCap_43 ?_
        refine cx_ldiv X (by omega) (by omega) (by omega) (by omega) dc_C_isAboveCap_46 ?_
        refine cx_lmul X dc_C_isAboveCap_47 ?_
        refine cx_ladd X dc_C_isAboveCap_48 ?_
        refine lv_lstore_n (lv' := [(2, .long (jL ((cs_upr S (sc 2) i h) + ((S 20 i h) * ((sc 2 ((S 5 h 0).toNat)) / 1000000000))))), (7, .long (jL (sc 2 ((S 5 h 0).toNat)))), (0, .ref (ad 0 0)), (1, .ref (ad 14 i)), (4, .long (jL (cs_lwr S (sc 2) i h))), (6, .int (jI ((h : Int))))]) X.1 X.2.1 dc_C_isAboveCap_49 rfl hl (by decide) rfl (fun ls hl => ?_)
        refine lv_lload X.1 X.2.1 dc_C_isAboveCap_50 (lv_at hl 4 rfl) ?_
        refine lv_aload_n X.1 X.2.1 dc_C_isAboveCap_52 rfl (lv_at hl 3 rfl) ?_
        refine cx_get (v := .ref (ad 15 i)) X B (wC_14 u ad S sc hi) rfl uw_S 2 (by decide) gf_C_75 rfl dc_C_isAboveCap_53 ?_
        refine lv_iload X.1 X.2.1 dc_C_isAboveCap_56 (lv_at hl 5 rfl) ?_
        refine cx_lald X B (wC_15 u ad S sc hi) (h) (by omega) (by omega) (by decide) dc_C_isAboveCap_58 ?_
        refine lv_lload X.1 X.2.1 dc_C_isAboveCap_59 (lv_at hl 1 rfl) ?_
        refine cx_ldc2 (a := 1000000000) X gk_C_46 (by decide +kernel) dc_C_isAboveCap_61 ?_
        refine cx_lrem X (by omega) (by omega) (by omega) (by omega) dc_C_isAboveCap_64 ?_
        refine cx_lmul X dc_C_isAboveCap_65 ?_
        refine cx_ladd X dc_C_isAboveCap_66 ?_
        refine lv_lstore (lv' := [(4, .long (jL ((cs_lwr S (sc 2) i h) + ((S 20 i h) * ((sc 2 ((S 5 h 0).toNat)) % 1000000000))))), (2, .long (jL ((cs_upr S (sc 2) i h) + ((S 20 i h) * ((sc 2 ((S 5 h 0).toNat)) / 1000000000))))), (7, .long (jL (sc 2 ((S 5 h 0).toNat)))), (0, .ref (ad 0 0)), (1, .ref (ad 14 i)), (6, .int (jI ((h : Int))))]) X.1 X.2.1 dc_C_isAboveCap_67 hl (by decide) rfl (fun ls hl => ?_)
        refine lv_iinc (v := jI ((h : Int) + 1)) (lv' := [(6, .int (jI ((h : Int) + 1))), (4, .long (jL ((cs_lwr S (sc 2) i h) + ((S 20 i h) * ((sc 2 ((S 5 h 0).toNat)) % 1000000000))))), (2, .long (jL ((cs_upr S (sc 2) i h) + ((S 20 i h) * ((sc 2 ((S 5 h 0).toNat)) / 1000000000))))), (7, .long (jL (sc 2 ((S 5 h 0).toNat)))), (0, .ref (ad 0 0)), (1, .ref (ad 14 i))]) X.1 X.2.1 dc_C_isAboveCap_69 hl (k := 5) rfl (jI_add _ _) (by decide) rfl (fun ls hl => ?_)
        refine lv_goto (tgt := 8) X.1 X.2.1 dc_C_isAboveCap_72 (by decide) ?_
        exact ih_3 (h + 1) ls  (by omega) (by omega) (by  exact lv_sub hl [4, 5, 2, 1, 0] rfl)
  exact lp_1 ((S 1 0 0 : Int).toNat + 1) 0 ls  (by omega) (by omega) (by  exact lv_sub hl [3, 4, 2, 1, 0] rfl)
def cs_capP (S : cs_S) (a : Int) : Prop := (0 ≤ a ∧ a < 10) ∧ ∃ i : Nat, (i : Int) < S 0 0 0 ∧ cs_above S (cs_hold S a 9) i
set_option maxHeartbeats 4000000 in
set_option maxRecDepth 100000 in
theorem c_C_capped (l : Launch) (u : cx_U) (sz : Nat) (ad : Nat → Nat → Nat) (S : cs_S) (sc : Nat → Nat → Int) (hI : cs_I S) (hP : cs_P S) (hH : cs_H S) (a : Int) (a1 : -2147483648 ≤ a) (a2 : a ≤ 2147483647) : cx_M l u mn_C_capped bc_C_capped 4 (some .boolean) 3 107 [.ref (ad 0 0), .int (jI (a))] (wC u ad S sc) sz (some (.int (jI (jB (cs_capP S a))))) (fun w' => ∃ sc', w' = wC u ad S sc') 0 0 := by
  refine cx_M.of (by decide +kernel) (Nat.le_of_ble_eq_true rfl) ?_
  intro p e s m args below meth c ls hsz X hr hlk hin B hl
  have X : CallFix p m c bc_C_capped 4 s args GW "CatchShares" := X
  have hl : lv_has ls 4 [(0, .ref (ad 0 0)), (1, .int (jI (a)))] := hl
  have hI1 := hI.1
  refine lv_iload_n X.1 X.2.1 dc_C_capped_0 rfl (lv_at hl 1 rfl) ?_
  refine cx_cSN (r := .int (jI (jB (0 ≤ a ∧ a < 10)))) (As := [.int (jI (a))]) (rest := []) X B kc_C_isOwner gm_C_58 (c_C_isOwner l u _ a (by omega) (by omega)) (fun _ _ _ h => h) ⟨(Nat.le_of_ble_eq_true rfl), (Nat.le_of_ble_eq_true rfl)⟩ ⟨(Nat.le_of_ble_eq_true rfl), (Nat.le_of_ble_eq_true rfl)⟩ rfl hl.1 (Nat.le_of_ble_eq_true rfl) dc_C_capped_1 rfl ?_
  refine cx_ifneB (tgt := 9) X dc_C_capped_4 (by decide) (fun c_1 => ?_) (fun c_1 => ?_)
  · refine lv_aload_n X.1 X.2.1 dc_C_capped_9 rfl (lv_at hl 0 rfl) ?_
    refine cx_get (v := .ref (ad 9 0)) X B (wC_0 u ad S sc) rfl uw_C 6 (by decide) gf_C_32 rfl dc_C_capped_10 ?_
    refine lv_iload_n X.1 X.2.1 dc_C_capped_13 rfl (lv_at hl 1 rfl) ?_
    refine cx_cVM (As := [.int (jI (a))]) (rest := []) X B kc_O_findHolds gm_C_155 (c_O_findHolds l u _ ad S sc hI hP a (by omega) (by omega)) (wC_9 u ad S sc) rfl rfl ⟨(Nat.le_of_ble_eq_true rfl), (Nat.le_of_ble_eq_true rfl)⟩ ⟨(Nat.le_of_ble_eq_true rfl), (Nat.le_of_ble_eq_true rfl)⟩ rfl hl.1 (Nat.le_of_ble_eq_true rfl) dc_C_capped_14 rfl (fun H locs w' hw B => ?_)
    obtain ⟨sc1, rfl, g0⟩ := hw
    have hf : ∀ q, q < 10 → 0 ≤ sc1 2 q ∧ sc1 2 q ≤ 1000000000000000000 := fun q hq => by rw [g0 q hq]; exact hH a q
    refine cx_iconst X dc_C_capped_17 ?_
    refine lv_istore_n (lv' := [(2, .int (jI (0))), (0, .ref (ad 0 0)), (1, .int (jI (a)))]) X.1 X.2.1 dc_C_capped_18 rfl hl (by decide) rfl (fun ls hl => ?_)
    have lp_2 : ∀ (n_3 i : Nat) (ls : Array Slot) (H : Heap) (locs : List Loc) (k1 : ∀ q, q < i → ¬ cs_above S (sc1 2) q), (i : Int) ≤ S 0 0 0 → S 0 0 0 - (i : Int) < (n_3 : Int) → cx_B u (cx_A (wC u ad S sc) sz) (wC u ad S sc1) s H locs → lv_has ls 4 [(0, .ref (ad 0 0)), (1, .int (jI (a))), (2, .int (jI ((i : Int))))] → W p l e (cx_R 3 107 0 0) s m args below meth c H locs 0 0 (MQ below (cx_Q u (wC u ad S sc) sz (some (.int (jI (jB (cs_capP S a))))) (fun w' => ∃ sc', w' = wC u ad S sc')) args s 0 0 (cx_A (wC u ad S sc) sz)) (F0 m 19 ls []) := by
      intro n_3
      induction n_3 with
      | zero => intro i ls H locs k1 hi_5 hn_6; exfalso; omega
      | succ n_3 ih_4 =>
        intro i ls H locs k1 hi_5 hn_6 B hl
        refine lv_iload_n X.1 X.2.1 dc_C_capped_19 rfl (lv_at hl 2 rfl) ?_
        refine lv_aload_n X.1 X.2.1 dc_C_capped_20 rfl (lv_at hl 0 rfl) ?_
        refine cx_get (v := .int (jI (S 0 0 0))) X B (wC_0 u ad S sc1) rfl uw_C 1 (by decide) gf_C_43 rfl dc_C_capped_21 ?_
        refine cx_icmp_ge (tgt := 53) X (by omega) (by omega) (by omega) (by omega) dc_C_capped_24 (by decide) (fun c_7 => ?_) (fun c_7 => ?_)
        · refine cx_iconst X dc_C_capped_53 ?_
          exact cx_zretM X B hsz hr hlk (Nat.le_of_ble_eq_true rfl) (Nat.le_of_ble_eq_true rfl) (by omega) (by omega) (by rw [jB_f (fun q => by obtain ⟨-, z, hz, hz2⟩ := q; exact k1 z (by omega) ((cs_above_c hI g0 z).mpr hz2))]) ⟨_, rfl⟩ dc_C_capped_54
        · refine lv_aload_n X.1 X.2.1 dc_C_capped_27 rfl (lv_at hl 0 rfl) ?_
          refine lv_iload_n X.1 X.2.1 dc_C_capped_28 rfl (lv_at hl 2 rfl) ?_
          have hi : (i : Int) < S 0 0 0 := by omega
          refine cx_cVN (As := [.int (jI ((i : Int)))]) (rest := []) X B kc_C_findStock gm_C_62 (c_C_findStock l u ad S sc1 hI i hi) (fun _ _ _ h => h) (wC_0 u ad S sc1) rfl rfl ⟨(Nat.le_of_ble_eq_true rfl), (Nat.le_of_ble_eq_true rfl)⟩ ⟨(Nat.le_of_ble_eq_true rfl), (Nat.le_of_ble_eq_true rfl)⟩ rfl hl.1 (Nat.le_of_ble_eq_true rfl) dc_C_capped_29 rfl ?_
          refine lv_astore_n (lv' := [(3, .ref (ad 14 i)), (0, .ref (ad 0 0)), (1, .int (jI (a))), (2, .int (jI ((i : Int))))]) X.1 X.2.1 dc_C_capped_32 rfl hl (by decide) rfl (fun ls hl => ?_)
          refine lv_aload_n X.1 X.2.1 dc_C_capped_33 rfl (lv_at hl 0 rfl) ?_
          refine lv_ifnull X.1 X.2.1 dc_C_capped_34 ?_
          refine lv_aload_n X.1 X.2.1 dc_C_capped_37 rfl (lv_at hl 1 rfl) ?_
          refine lv_aload_n X.1 X.2.1 dc_C_capped_38 rfl (lv_at hl 0 rfl) ?_
          refine cx_cVN (r := .int (jI (jB (cs_above S (sc1 2) i)))) (As := [.ref (ad 14 i)]) (rest := []) X B kc_C_isAboveCap gm_C_159 (c_C_isAboveCap l u ad S sc1 hI hf i hi) (fun _ _ _ h => h) (wC_0 u ad S sc1) rfl rfl ⟨(Nat.le_of_ble_eq_true rfl), (Nat.le_of_ble_eq_true rfl)⟩ ⟨(Nat.le_of_ble_eq_true rfl), (Nat.le_of_ble_eq_true rfl)⟩ rfl hl.1 (Nat.le_of_ble_eq_true rfl) dc_C_capped_39 rfl ?_
          refine cx_ifeqB (tgt := 47) X dc_C_capped_42 (by decide) (fun c_8 => ?_) (fun c_8 => ?_)
          · refine lv_iinc (v := jI ((i : Int) + 1)) (lv' := [(2, .int (jI ((i : Int) + 1))), (3, .ref (ad 14 i)), (0, .ref (ad 0 0)), (1, .int (jI (a)))]) X.1 X.2.1 dc_C_capped_47 hl (k := 3) rfl (jI_add _ _) (by decide) rfl (fun ls hl => ?_)
            refine lv_goto (tgt := 19) X.1 X.2.1 dc_C_capped_50 (by decide) ?_
            exact ih_4 (i + 1) ls _ _ (fun q hq => by rcases (show q < i ∨ q = i by omega) with h | rfl; exact k1 q h; exact c_8) (by omega) (by omega) B (by  exact lv_sub hl [2, 3, 0] rfl)
          · refine cx_iconst X dc_C_capped_45 ?_
            exact cx_zretM X B hsz hr hlk (Nat.le_of_ble_eq_true rfl) (Nat.le_of_ble_eq_true rfl) (by omega) (by omega) (by rw [jB_t ⟨by omega, i, hi, (cs_above_c hI g0 i).mp c_8⟩]) ⟨_, rfl⟩ dc_C_capped_46
    exact lp_2 ((S 0 0 0 : Int).toNat + 1) 0 ls _ _ (fun q hq => absurd hq (by omega)) (by omega) (by omega) B (by  exact lv_sub hl [1, 2, 0] rfl)
  · refine cx_iconst X dc_C_capped_7 ?_
    exact cx_zretM X B hsz hr hlk (Nat.le_of_ble_eq_true rfl) (Nat.le_of_ble_eq_true rfl) (by omega) (by omega) (by rw [jB_f (fun q => by have q1 := q.1; omega)]) ⟨_, rfl⟩ dc_C_capped_8
