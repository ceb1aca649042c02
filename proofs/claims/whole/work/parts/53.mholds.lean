theorem wM_s0 (u : cx_U) (ad : Nat → Nat → Nat) (S : cs_S) (sc : Nat → Nat → Int) (jn : Nat) (v : Int) : cx_up (wM u ad S sc) 33 0 (ad 33 0, .inl (u.2 1, 12, .inr (.inl (fun z_ => jL (va_up (fun z_ => sc 0 z_) jn v z_))))) = wM u ad S (cs_su sc 0 jn v) := by
  funext k j
  match k with
  | 0 => simp [cx_up, wM]
  | 1 => simp [cx_up, wM]
  | 2 => simp [cx_up, wM]
  | 3 => simp [cx_up, wM]
  | 4 => simp [cx_up, wM]
  | 5 => simp [cx_up, wM]
  | 6 => simp [cx_up, wM]
  | 7 => simp [cx_up, wM]
  | 8 => simp [cx_up, wM]
  | 9 => simp [cx_up, wM]
  | 10 => simp [cx_up, wM]
  | 11 => simp [cx_up, wM]
  | 12 => simp [cx_up, wM]
  | 13 => simp [cx_up, wM]
  | 14 => simp [cx_up, wM]
  | 15 => simp [cx_up, wM]
  | 16 => simp [cx_up, wM]
  | 17 => simp [cx_up, wM]
  | 18 => simp [cx_up, wM]
  | 19 => simp [cx_up, wM]
  | 20 => by_cases hz : j = 0 <;> simp [cx_up, wM, cs_u, hz, cs_su, va_upE]
  | 21 => by_cases hz : j = 0 <;> simp [cx_up, wM, cs_u, hz, cs_su, va_upE]
  | 22 => by_cases hz : j = 0 <;> simp [cx_up, wM, cs_u, hz, cs_su, va_upE]
  | 23 => by_cases hz : j = 0 <;> simp [cx_up, wM, cs_u, hz, cs_su, va_upE]
  | 24 => by_cases hz : j = 0 <;> simp [cx_up, wM, cs_u, hz, cs_su, va_upE]
  | 25 => by_cases hz : j = 0 <;> simp [cx_up, wM, cs_u, hz, cs_su, va_upE]
  | 26 => by_cases hz : j = 0 <;> simp [cx_up, wM, cs_u, hz, cs_su, va_upE]
  | 27 => by_cases hz : j = 0 <;> simp [cx_up, wM, cs_u, hz, cs_su, va_upE]
  | 28 => by_cases hz : j = 0 <;> simp [cx_up, wM, cs_u, hz, cs_su, va_upE]
  | 29 => by_cases hz : j = 0 <;> simp [cx_up, wM, cs_u, hz, cs_su, va_upE]
  | 30 => by_cases hz : j = 0 <;> simp [cx_up, wM, cs_u, hz, cs_su, va_upE]
  | 31 => by_cases hz : j = 0 <;> simp [cx_up, wM, cs_u, hz, cs_su, va_upE]
  | 32 => by_cases hz : j = 0 <;> simp [cx_up, wM, cs_u, hz, cs_su, va_upE]
  | 33 => by_cases hz : j = 0 <;> simp [cx_up, wM, cs_u, hz, cs_su, va_upE]
  | 34 => by_cases hz : j = 0 <;> simp [cx_up, wM, cs_u, hz, cs_su, va_upE]
  | 35 => by_cases hz : j = 0 <;> simp [cx_up, wM, cs_u, hz, cs_su, va_upE]
  | 36 => by_cases hz : j = 0 <;> simp [cx_up, wM, cs_u, hz, cs_su, va_upE]
  | 37 => by_cases hz : j = 0 <;> simp [cx_up, wM, cs_u, hz, cs_su, va_upE]
  | 38 => by_cases hz : j = 0 <;> simp [cx_up, wM, cs_u, hz, cs_su, va_upE]
  | 39 => by_cases hz : j = 0 <;> simp [cx_up, wM, cs_u, hz, cs_su, va_upE]
  | 40 => by_cases hz : j = 0 <;> simp [cx_up, wM, cs_u, hz, cs_su, va_upE]
  | k + 41 => simp [cx_up, wM]
theorem wM_s1 (u : cx_U) (ad : Nat → Nat → Nat) (S : cs_S) (sc : Nat → Nat → Int) (jn : Nat) (v : Int) : cx_up (wM u ad S sc) 38 0 (ad 38 0, .inl (u.2 1, 10, .inr (.inl (fun z_ => jL (va_up (fun z_ => sc 1 z_) jn v z_))))) = wM u ad S (cs_su sc 1 jn v) := by
  funext k j
  match k with
  | 0 => simp [cx_up, wM]
  | 1 => simp [cx_up, wM]
  | 2 => simp [cx_up, wM]
  | 3 => simp [cx_up, wM]
  | 4 => simp [cx_up, wM]
  | 5 => simp [cx_up, wM]
  | 6 => simp [cx_up, wM]
  | 7 => simp [cx_up, wM]
  | 8 => simp [cx_up, wM]
  | 9 => simp [cx_up, wM]
  | 10 => simp [cx_up, wM]
  | 11 => simp [cx_up, wM]
  | 12 => simp [cx_up, wM]
  | 13 => simp [cx_up, wM]
  | 14 => simp [cx_up, wM]
  | 15 => simp [cx_up, wM]
  | 16 => simp [cx_up, wM]
  | 17 => simp [cx_up, wM]
  | 18 => simp [cx_up, wM]
  | 19 => simp [cx_up, wM]
  | 20 => by_cases hz : j = 0 <;> simp [cx_up, wM, cs_u, hz, cs_su, va_upE]
  | 21 => by_cases hz : j = 0 <;> simp [cx_up, wM, cs_u, hz, cs_su, va_upE]
  | 22 => by_cases hz : j = 0 <;> simp [cx_up, wM, cs_u, hz, cs_su, va_upE]
  | 23 => by_cases hz : j = 0 <;> simp [cx_up, wM, cs_u, hz, cs_su, va_upE]
  | 24 => by_cases hz : j = 0 <;> simp [cx_up, wM, cs_u, hz, cs_su, va_upE]
  | 25 => by_cases hz : j = 0 <;> simp [cx_up, wM, cs_u, hz, cs_su, va_upE]
  | 26 => by_cases hz : j = 0 <;> simp [cx_up, wM, cs_u, hz, cs_su, va_upE]
  | 27 => by_cases hz : j = 0 <;> simp [cx_up, wM, cs_u, hz, cs_su, va_upE]
  | 28 => by_cases hz : j = 0 <;> simp [cx_up, wM, cs_u, hz, cs_su, va_upE]
  | 29 => by_cases hz : j = 0 <;> simp [cx_up, wM, cs_u, hz, cs_su, va_upE]
  | 30 => by_cases hz : j = 0 <;> simp [cx_up, wM, cs_u, hz, cs_su, va_upE]
  | 31 => by_cases hz : j = 0 <;> simp [cx_up, wM, cs_u, hz, cs_su, va_upE]
  | 32 => by_cases hz : j = 0 <;> simp [cx_up, wM, cs_u, hz, cs_su, va_upE]
  | 33 => by_cases hz : j = 0 <;> simp [cx_up, wM, cs_u, hz, cs_su, va_upE]
  | 34 => by_cases hz : j = 0 <;> simp [cx_up, wM, cs_u, hz, cs_su, va_upE]
  | 35 => by_cases hz : j = 0 <;> simp [cx_up, wM, cs_u, hz, cs_su, va_upE]
  | 36 => by_cases hz : j = 0 <;> simp [cx_up, wM, cs_u, hz, cs_su, va_upE]
  | 37 => by_cases hz : j = 0 <;> simp [cx_up, wM, cs_u, hz, cs_su, va_upE]
  | 38 => by_cases hz : j = 0 <;> simp [cx_up, wM, cs_u, hz, cs_su, va_upE]
  | 39 => by_cases hz : j = 0 <;> simp [cx_up, wM, cs_u, hz, cs_su, va_upE]
  | 40 => by_cases hz : j = 0 <;> simp [cx_up, wM, cs_u, hz, cs_su, va_upE]
  | k + 41 => simp [cx_up, wM]
theorem wM_s2 (u : cx_U) (ad : Nat → Nat → Nat) (S : cs_S) (sc : Nat → Nat → Int) (jn : Nat) (v : Int) : cx_up (wM u ad S sc) 39 0 (ad 39 0, .inl (u.2 1, 10, .inr (.inl (fun z_ => jL (va_up (fun z_ => sc 2 z_) jn v z_))))) = wM u ad S (cs_su sc 2 jn v) := by
  funext k j
  match k with
  | 0 => simp [cx_up, wM]
  | 1 => simp [cx_up, wM]
  | 2 => simp [cx_up, wM]
  | 3 => simp [cx_up, wM]
  | 4 => simp [cx_up, wM]
  | 5 => simp [cx_up, wM]
  | 6 => simp [cx_up, wM]
  | 7 => simp [cx_up, wM]
  | 8 => simp [cx_up, wM]
  | 9 => simp [cx_up, wM]
  | 10 => simp [cx_up, wM]
  | 11 => simp [cx_up, wM]
  | 12 => simp [cx_up, wM]
  | 13 => simp [cx_up, wM]
  | 14 => simp [cx_up, wM]
  | 15 => simp [cx_up, wM]
  | 16 => simp [cx_up, wM]
  | 17 => simp [cx_up, wM]
  | 18 => simp [cx_up, wM]
  | 19 => simp [cx_up, wM]
  | 20 => by_cases hz : j = 0 <;> simp [cx_up, wM, cs_u, hz, cs_su, va_upE]
  | 21 => by_cases hz : j = 0 <;> simp [cx_up, wM, cs_u, hz, cs_su, va_upE]
  | 22 => by_cases hz : j = 0 <;> simp [cx_up, wM, cs_u, hz, cs_su, va_upE]
  | 23 => by_cases hz : j = 0 <;> simp [cx_up, wM, cs_u, hz, cs_su, va_upE]
  | 24 => by_cases hz : j = 0 <;> simp [cx_up, wM, cs_u, hz, cs_su, va_upE]
  | 25 => by_cases hz : j = 0 <;> simp [cx_up, wM, cs_u, hz, cs_su, va_upE]
  | 26 => by_cases hz : j = 0 <;> simp [cx_up, wM, cs_u, hz, cs_su, va_upE]
  | 27 => by_cases hz : j = 0 <;> simp [cx_up, wM, cs_u, hz, cs_su, va_upE]
  | 28 => by_cases hz : j = 0 <;> simp [cx_up, wM, cs_u, hz, cs_su, va_upE]
  | 29 => by_cases hz : j = 0 <;> simp [cx_up, wM, cs_u, hz, cs_su, va_upE]
  | 30 => by_cases hz : j = 0 <;> simp [cx_up, wM, cs_u, hz, cs_su, va_upE]
  | 31 => by_cases hz : j = 0 <;> simp [cx_up, wM, cs_u, hz, cs_su, va_upE]
  | 32 => by_cases hz : j = 0 <;> simp [cx_up, wM, cs_u, hz, cs_su, va_upE]
  | 33 => by_cases hz : j = 0 <;> simp [cx_up, wM, cs_u, hz, cs_su, va_upE]
  | 34 => by_cases hz : j = 0 <;> simp [cx_up, wM, cs_u, hz, cs_su, va_upE]
  | 35 => by_cases hz : j = 0 <;> simp [cx_up, wM, cs_u, hz, cs_su, va_upE]
  | 36 => by_cases hz : j = 0 <;> simp [cx_up, wM, cs_u, hz, cs_su, va_upE]
  | 37 => by_cases hz : j = 0 <;> simp [cx_up, wM, cs_u, hz, cs_su, va_upE]
  | 38 => by_cases hz : j = 0 <;> simp [cx_up, wM, cs_u, hz, cs_su, va_upE]
  | 39 => by_cases hz : j = 0 <;> simp [cx_up, wM, cs_u, hz, cs_su, va_upE]
  | 40 => by_cases hz : j = 0 <;> simp [cx_up, wM, cs_u, hz, cs_su, va_upE]
  | k + 41 => simp [cx_up, wM]
theorem wM_s3 (u : cx_U) (ad : Nat → Nat → Nat) (S : cs_S) (sc : Nat → Nat → Int) (jn : Nat) (v : Int) : cx_up (wM u ad S sc) 40 0 (ad 40 0, .inl (u.2 1, 10, .inr (.inl (fun z_ => jL (va_up (fun z_ => sc 3 z_) jn v z_))))) = wM u ad S (cs_su sc 3 jn v) := by
  funext k j
  match k with
  | 0 => simp [cx_up, wM]
  | 1 => simp [cx_up, wM]
  | 2 => simp [cx_up, wM]
  | 3 => simp [cx_up, wM]
  | 4 => simp [cx_up, wM]
  | 5 => simp [cx_up, wM]
  | 6 => simp [cx_up, wM]
  | 7 => simp [cx_up, wM]
  | 8 => simp [cx_up, wM]
  | 9 => simp [cx_up, wM]
  | 10 => simp [cx_up, wM]
  | 11 => simp [cx_up, wM]
  | 12 => simp [cx_up, wM]
  | 13 => simp [cx_up, wM]
  | 14 => simp [cx_up, wM]
  | 15 => simp [cx_up, wM]
  | 16 => simp [cx_up, wM]
  | 17 => simp [cx_up, wM]
  | 18 => simp [cx_up, wM]
  | 19 => simp [cx_up, wM]
  | 20 => by_cases hz : j = 0 <;> simp [cx_up, wM, cs_u, hz, cs_su, va_upE]
  | 21 => by_cases hz : j = 0 <;> simp [cx_up, wM, cs_u, hz, cs_su, va_upE]
  | 22 => by_cases hz : j = 0 <;> simp [cx_up, wM, cs_u, hz, cs_su, va_upE]
  | 23 => by_cases hz : j = 0 <;> simp [cx_up, wM, cs_u, hz, cs_su, va_upE]
  | 24 => by_cases hz : j = 0 <;> simp [cx_up, wM, cs_u, hz, cs_su, va_upE]
  | 25 => by_cases hz : j = 0 <;> simp [cx_up, wM, cs_u, hz, cs_su, va_upE]
  | 26 => by_cases hz : j = 0 <;> simp [cx_up, wM, cs_u, hz, cs_su, va_upE]
  | 27 => by_cases hz : j = 0 <;> simp [cx_up, wM, cs_u, hz, cs_su, va_upE]
  | 28 => by_cases hz : j = 0 <;> simp [cx_up, wM, cs_u, hz, cs_su, va_upE]
  | 29 => by_cases hz : j = 0 <;> simp [cx_up, wM, cs_u, hz, cs_su, va_upE]
  | 30 => by_cases hz : j = 0 <;> simp [cx_up, wM, cs_u, hz, cs_su, va_upE]
  | 31 => by_cases hz : j = 0 <;> simp [cx_up, wM, cs_u, hz, cs_su, va_upE]
  | 32 => by_cases hz : j = 0 <;> simp [cx_up, wM, cs_u, hz, cs_su, va_upE]
  | 33 => by_cases hz : j = 0 <;> simp [cx_up, wM, cs_u, hz, cs_su, va_upE]
  | 34 => by_cases hz : j = 0 <;> simp [cx_up, wM, cs_u, hz, cs_su, va_upE]
  | 35 => by_cases hz : j = 0 <;> simp [cx_up, wM, cs_u, hz, cs_su, va_upE]
  | 36 => by_cases hz : j = 0 <;> simp [cx_up, wM, cs_u, hz, cs_su, va_upE]
  | 37 => by_cases hz : j = 0 <;> simp [cx_up, wM, cs_u, hz, cs_su, va_upE]
  | 38 => by_cases hz : j = 0 <;> simp [cx_up, wM, cs_u, hz, cs_su, va_upE]
  | 39 => by_cases hz : j = 0 <;> simp [cx_up, wM, cs_u, hz, cs_su, va_upE]
  | 40 => by_cases hz : j = 0 <;> simp [cx_up, wM, cs_u, hz, cs_su, va_upE]
  | k + 41 => simp [cx_up, wM]
def cs_pw : Nat → Int
  | 0 => 1
  | n + 1 => 100 * cs_pw n
set_option maxHeartbeats 4000000 in
set_option maxRecDepth 100000 in
theorem c_M_findHolds (l : Launch) (u : cx_U) (sz : Nat) (ad : Nat → Nat → Nat) (S : cs_S) (sc : Nat → Nat → Int) (hI : cs_I S) (hP : cs_P S) (o : Int) (o1 : -2147483648 ≤ o) (o2 : o ≤ 2147483647) : cx_M l u mn_M_findHolds bc_M_findHolds 7 none 0 0 [.ref (ad 20 0), .int (jI (o))] (wM u ad S sc) sz (none) (fun w' => ∃ sc', w' = wM u ad S sc' ∧ ∀ j, j < 10 → sc' 3 j = cs_hold S o 9 j) 0 0 := by
  refine cx_M.of (by decide +kernel) (Nat.le_of_ble_eq_true rfl) ?_
  intro p e s m args below meth c ls hsz X hr hlk hin B hl
  have X : CallFix p m c bc_M_findHolds 7 s args GW "CatchSharesModel" := X
  have hl : lv_has ls 7 [(0, .ref (ad 20 0)), (1, .int (jI (o)))] := hl
  refine cx_lconst (a := 1) X dc_M_findHolds_0 (by decide +kernel) ?_
  refine lv_lstore_n (lv' := [(2, .long (jL (1))), (0, .ref (ad 20 0)), (1, .int (jI (o)))]) X.1 X.2.1 dc_M_findHolds_1 rfl hl (by decide) rfl (fun ls hl => ?_)
  refine cx_iconst X dc_M_findHolds_2 ?_
  refine lv_istore (lv' := [(4, .int (jI (0))), (2, .long (jL (1))), (0, .ref (ad 20 0)), (1, .int (jI (o)))]) X.1 X.2.1 dc_M_findHolds_3 hl (by decide) rfl (fun ls hl => ?_)
  have lp_1 : ∀ (n_2 k : Nat) (ls : Array Slot) (H : Heap) (locs : List Loc) , (k : Int) ≤ 9 → 9 - (k : Int) < (n_2 : Int) → cx_B u (cx_A (wM u ad S sc) sz) (wM u ad S sc) s H locs → lv_has ls 7 [(0, .ref (ad 20 0)), (1, .int (jI (o))), (2, .long (jL (cs_pw k))), (4, .int (jI ((k : Int))))] → W p l e (cx_R 0 0 0 0) s m args below meth c H locs 0 0 (MQ below (cx_Q u (wM u ad S sc) sz (none) (fun w' => ∃ sc', w' = wM u ad S sc' ∧ ∀ j, j < 10 → sc' 3 j = cs_hold S o 9 j)) args s 0 0 (cx_A (wM u ad S sc) sz)) (F0 m 5 ls []) := by
    intro n_2
    induction n_2 with
    | zero => intro k ls H locs  hi_4 hn_5; exfalso; omega
    | succ n_2 ih_3 =>
      intro k ls H locs  hi_4 hn_5 B hl
      refine lv_iload X.1 X.2.1 dc_M_findHolds_5 (lv_at hl 3 rfl) ?_
      refine cx_bipush X dc_M_findHolds_7 (by decide +kernel) ?_
      refine cx_icmp_ge (tgt := 24) X (by omega) (by omega) (by omega) (by omega) dc_M_findHolds_9 (by decide) (fun c_6 => ?_) (fun c_6 => ?_)
      · refine cx_iconst X dc_M_findHolds_24 ?_
        refine lv_istore (lv' := [(4, .int (jI (0))), (0, .ref (ad 20 0)), (1, .int (jI (o))), (2, .long (jL (cs_pw k)))]) X.1 X.2.1 dc_M_findHolds_25 hl (by decide) rfl (fun ls hl => ?_)
        have hk9 : k = 9 := by omega
        subst hk9
        rw [show cs_pw 9 = 1000000000000000000 from rfl] at hl
        have lp_7 : ∀ (n_8 i : Nat) (ls : Array Slot) (H : Heap) (locs : List Loc) (sc1 : Nat → Nat → Int) (k0 : ∀ j, j < i → sc1 1 j = cs_way S o 0 j ∧ sc1 3 j = cs_hold S o 0 j), (i : Int) ≤ 10 → 10 - (i : Int) < (n_8 : Int) → cx_B u (cx_A (wM u ad S sc) sz) (wM u ad S sc1) s H locs → lv_has ls 7 [(0, .ref (ad 20 0)), (1, .int (jI (o))), (2, .long (jL (1000000000000000000))), (4, .int (jI ((i : Int))))] → W p l e (cx_R 0 0 0 0) s m args below meth c H locs 0 0 (MQ below (cx_Q u (wM u ad S sc) sz (none) (fun w' => ∃ sc', w' = wM u ad S sc' ∧ ∀ j, j < 10 → sc' 3 j = cs_hold S o 9 j)) args s 0 0 (cx_A (wM u ad S sc) sz)) (F0 m 27 ls []) := by
          intro n_8
          induction n_8 with
          | zero => intro i ls H locs sc1 k0 hi_10 hn_11; exfalso; omega
          | succ n_8 ih_9 =>
            intro i ls H locs sc1 k0 hi_10 hn_11 B hl
            refine lv_iload X.1 X.2.1 dc_M_findHolds_27 (lv_at hl 3 rfl) ?_
            refine cx_bipush X dc_M_findHolds_29 (by decide +kernel) ?_
            refine cx_icmp_ge (tgt := 72) X (by omega) (by omega) (by omega) (by omega) dc_M_findHolds_31 (by decide) (fun c_12 => ?_) (fun c_12 => ?_)
            · refine cx_iconst X dc_M_findHolds_72 ?_
              refine lv_istore (lv' := [(4, .int (jI (1))), (0, .ref (ad 20 0)), (1, .int (jI (o))), (2, .long (jL (1000000000000000000)))]) X.1 X.2.1 dc_M_findHolds_73 hl (by decide) rfl (fun ls hl => ?_)
              have lp_13 : ∀ (n_14 k : Nat) (ls : Array Slot) (H : Heap) (locs : List Loc) (sc4 : Nat → Nat → Int) (k4 : ∀ j, j < 10 → sc4 1 j = cs_way S o k j ∧ sc4 3 j = cs_hold S o k j), (k : Int) ≤ 9 → 9 - (k : Int) < (n_14 : Int) → cx_B u (cx_A (wM u ad S sc) sz) (wM u ad S sc4) s H locs → lv_has ls 7 [(0, .ref (ad 20 0)), (1, .int (jI (o))), (2, .long (jL (1000000000000000000))), (4, .int (jI ((k : Int) + 1)))] → W p l e (cx_R 0 0 0 0) s m args below meth c H locs 0 0 (MQ below (cx_Q u (wM u ad S sc) sz (none) (fun w' => ∃ sc', w' = wM u ad S sc' ∧ ∀ j, j < 10 → sc' 3 j = cs_hold S o 9 j)) args s 0 0 (cx_A (wM u ad S sc) sz)) (F0 m 75 ls []) := by
                intro n_14
                induction n_14 with
                | zero => intro k ls H locs sc4 k4 hi_16 hn_17; exfalso; omega
                | succ n_14 ih_15 =>
                  intro k ls H locs sc4 k4 hi_16 hn_17 B hl
                  refine lv_iload X.1 X.2.1 dc_M_findHolds_75 (lv_at hl 3 rfl) ?_
                  refine cx_bipush X dc_M_findHolds_77 (by decide +kernel) ?_
                  refine cx_icmp_ge (tgt := 221) X (by omega) (by omega) (by omega) (by omega) dc_M_findHolds_79 (by decide) (fun c_18 => ?_) (fun c_18 => ?_)
                  · have hk9 : k = 9 := by omega
                    subst hk9
                    exact cx_vretM X B hsz hr hlk (Nat.le_of_ble_eq_true rfl) (Nat.le_of_ble_eq_true rfl) ⟨_, rfl, fun j hj => (k4 j hj).2⟩ dc_M_findHolds_221
                  · refine cx_iconst X dc_M_findHolds_82 ?_
                    refine lv_istore (lv' := [(5, .int (jI (0))), (0, .ref (ad 20 0)), (1, .int (jI (o))), (2, .long (jL (1000000000000000000))), (4, .int (jI ((k : Int) + 1)))]) X.1 X.2.1 dc_M_findHolds_83 hl (by decide) rfl (fun ls hl => ?_)
                    have lp_19 : ∀ (n_20 t : Nat) (ls : Array Slot) (H : Heap) (locs : List Loc) (sc5 : Nat → Nat → Int) (x1 : ∀ j, sc5 1 j = sc4 1 j) (x3 : ∀ j, sc5 3 j = sc4 3 j) (x2 : ∀ j, j < t → sc5 2 j = cs_nx S (sc4 1) j), (t : Int) ≤ 10 → 10 - (t : Int) < (n_20 : Int) → cx_B u (cx_A (wM u ad S sc) sz) (wM u ad S sc5) s H locs → lv_has ls 7 [(0, .ref (ad 20 0)), (1, .int (jI (o))), (2, .long (jL (1000000000000000000))), (4, .int (jI ((k : Int) + 1))), (5, .int (jI ((t : Int))))] → W p l e (cx_R 0 0 0 0) s m args below meth c H locs 0 0 (MQ below (cx_Q u (wM u ad S sc) sz (none) (fun w' => ∃ sc', w' = wM u ad S sc' ∧ ∀ j, j < 10 → sc' 3 j = cs_hold S o 9 j)) args s 0 0 (cx_A (wM u ad S sc) sz)) (F0 m 85 ls []) := by
                      intro n_20
                      induction n_20 with
                      | zero => intro t ls H locs sc5 x1 x3 x2 hi_22 hn_23; exfalso; omega
                      | succ n_20 ih_21 =>
                        intro t ls H locs sc5 x1 x3 x2 hi_22 hn_23 B hl
                        refine lv_iload X.1 X.2.1 dc_M_findHolds_85 (lv_at hl 4 rfl) ?_
                        refine cx_bipush X dc_M_findHolds_87 (by decide +kernel) ?_
                        refine cx_icmp_ge (tgt := 163) X (by omega) (by omega) (by omega) (by omega) dc_M_findHolds_89 (by decide) (fun c_24 => ?_) (fun c_24 => ?_)
                        · refine cx_iconst X dc_M_findHolds_163 ?_
                          refine lv_istore (lv' := [(5, .int (jI (0))), (0, .ref (ad 20 0)), (1, .int (jI (o))), (2, .long (jL (1000000000000000000))), (4, .int (jI ((k : Int) + 1)))]) X.1 X.2.1 dc_M_findHolds_164 hl (by decide) rfl (fun ls hl => ?_)
                          have w0 : ∀ j, j < 10 → sc5 2 j = cs_way S o (k + 1) j := fun j hj => by rw [x2 j (by omega)]; exact cs_sum_c (fun q hq => by show _ / 100 * _ = _ / 100 * _; rw [(k4 q hq).1])
                          have lp_25 : ∀ (n_26 j : Nat) (ls : Array Slot) (H : Heap) (locs : List Loc) (sc8 : Nat → Nat → Int) (v0 : ∀ x, x < j → sc8 1 x = cs_way S o (k + 1) x) (v1 : ∀ x, x < j → sc8 3 x = cs_hold S o (k + 1) x) (v2 : ∀ x, sc8 2 x = sc5 2 x) (v3 : ∀ x, j ≤ x → x < 10 → sc8 3 x = cs_hold S o k x), (j : Int) ≤ 10 → 10 - (j : Int) < (n_26 : Int) → cx_B u (cx_A (wM u ad S sc) sz) (wM u ad S sc8) s H locs → lv_has ls 7 [(0, .ref (ad 20 0)), (1, .int (jI (o))), (2, .long (jL (1000000000000000000))), (4, .int (jI ((k : Int) + 1))), (5, .int (jI ((j : Int))))] → W p l e (cx_R 0 0 0 0) s m args below meth c H locs 0 0 (MQ below (cx_Q u (wM u ad S sc) sz (none) (fun w' => ∃ sc', w' = wM u ad S sc' ∧ ∀ j, j < 10 → sc' 3 j = cs_hold S o 9 j)) args s 0 0 (cx_A (wM u ad S sc) sz)) (F0 m 166 ls []) := by
                            intro n_26
                            induction n_26 with
                            | zero => intro j ls H locs sc8 v0 v1 v2 v3 hi_28 hn_29; exfalso; omega
                            | succ n_26 ih_27 =>
                              intro j ls H locs sc8 v0 v1 v2 v3 hi_28 hn_29 B hl
                              refine lv_iload X.1 X.2.1 dc_M_findHolds_166 (lv_at hl 4 rfl) ?_
                              refine cx_bipush X dc_M_findHolds_168 (by decide +kernel) ?_
                              refine cx_icmp_ge (tgt := 215) X (by omega) (by omega) (by omega) (by omega) dc_M_findHolds_170 (by decide) (fun c_30 => ?_) (fun c_30 => ?_)
                              · refine lv_iinc (v := jI (((k : Int) + 1) + 1)) (lv' := [(4, .int (jI (((k : Int) + 1) + 1))), (0, .ref (ad 20 0)), (1, .int (jI (o))), (2, .long (jL (1000000000000000000))), (5, .int (jI ((j : Int))))]) X.1 X.2.1 dc_M_findHolds_215 hl (k := 3) rfl (jI_add _ _) (by decide) rfl (fun ls hl => ?_)
                                refine lv_goto (tgt := 75) X.1 X.2.1 dc_M_findHolds_218 (by decide) ?_
                                exact ih_15 (k + 1) ls _ _ sc8 (fun j hj => ⟨v0 j (by omega), v1 j (by omega)⟩) (by omega) (by omega) B (by  exact lv_sub hl [1, 2, 3, 0] rfl)
                              · refine lv_aload_n X.1 X.2.1 dc_M_findHolds_173 rfl (lv_at hl 0 rfl) ?_
                                refine cx_get (v := .ref (ad 38 0)) X B (wM_20 u ad S sc8) rfl uw_M 22 (by decide) gf_M_70 rfl dc_M_findHolds_174 ?_
                                refine lv_iload X.1 X.2.1 dc_M_findHolds_177 (lv_at hl 4 rfl) ?_
                                refine lv_aload_n X.1 X.2.1 dc_M_findHolds_179 rfl (lv_at hl 0 rfl) ?_
                                refine cx_get (v := .ref (ad 39 0)) X B (wM_20 u ad S sc8) rfl uw_M 23 (by decide) gf_M_73 rfl dc_M_findHolds_180 ?_
                                refine lv_iload X.1 X.2.1 dc_M_findHolds_183 (lv_at hl 4 rfl) ?_
                                refine cx_lald X B (wM_39 u ad S sc8) (j) (by omega) (by omega) (by decide) dc_M_findHolds_185 ?_
                                refine cx_last X B (wM_38 u ad S sc8) (j) (by omega) (by omega) (by decide) dc_M_findHolds_186 (fun H locs B => ?_)
                                have B : cx_B u (cx_A (wM u ad S sc) sz) (cx_up (wM u ad S sc8) 38 0 (ad 38 0, .inl (u.2 1, 10, .inr (.inl (fun z_ => jL (va_up (fun z_ => sc8 1 z_) j (sc8 2 j) z_)))))) s H locs := B
                                obtain ⟨sc10, hsc10⟩ : ∃ z, z = cs_su sc8 1 j (sc8 2 j) := ⟨_, rfl⟩
                                have B : cx_B u (cx_A (wM u ad S sc) sz) (wM u ad S sc10) s H locs := by rw [hsc10, ← wM_s1]; exact B
                                have e3 : sc10 3 j = sc8 3 j := by rw [hsc10]; simp [cs_su]
                                have e2 : sc10 2 j = sc5 2 j := by rw [hsc10]; simp [cs_su]; exact v2 j
                                refine lv_aload_n X.1 X.2.1 dc_M_findHolds_187 rfl (lv_at hl 0 rfl) ?_
                                refine cx_get (v := .ref (ad 40 0)) X B (wM_20 u ad S sc10) rfl uw_M 24 (by decide) gf_M_76 rfl dc_M_findHolds_188 ?_
                                refine lv_iload X.1 X.2.1 dc_M_findHolds_191 (lv_at hl 4 rfl) ?_
                                refine lv_aload_n X.1 X.2.1 dc_M_findHolds_193 rfl (lv_at hl 0 rfl) ?_
                                refine cx_get (v := .ref (ad 40 0)) X B (wM_20 u ad S sc10) rfl uw_M 24 (by decide) gf_M_76 rfl dc_M_findHolds_194 ?_
                                refine lv_iload X.1 X.2.1 dc_M_findHolds_197 (lv_at hl 4 rfl) ?_
                                refine cx_lald X B (wM_40 u ad S sc10) (j) (by omega) (by omega) (by decide) dc_M_findHolds_199 ?_
                                refine lv_aload_n X.1 X.2.1 dc_M_findHolds_200 rfl (lv_at hl 0 rfl) ?_
                                refine cx_get (v := .ref (ad 39 0)) X B (wM_20 u ad S sc10) rfl uw_M 23 (by decide) gf_M_73 rfl dc_M_findHolds_201 ?_
                                refine lv_iload X.1 X.2.1 dc_M_findHolds_204 (lv_at hl 4 rfl) ?_
                                refine cx_lald X B (wM_39 u ad S sc10) (j) (by omega) (by omega) (by decide) dc_M_findHolds_206 ?_
                                refine cx_ladd X dc_M_findHolds_207 ?_
                                refine cx_last X B (wM_40 u ad S sc10) (j) (by omega) (by omega) (by decide) dc_M_findHolds_208 (fun H locs B => ?_)
                                have B : cx_B u (cx_A (wM u ad S sc) sz) (cx_up (wM u ad S sc10) 40 0 (ad 40 0, .inl (u.2 1, 10, .inr (.inl (fun z_ => jL (va_up (fun z_ => sc10 3 z_) j ((sc10 3 j) + (sc10 2 j)) z_)))))) s H locs := B
                                obtain ⟨sc11, hsc11⟩ : ∃ z, z = cs_su sc10 3 j (sc10 3 j + sc10 2 j) := ⟨_, rfl⟩
                                have B : cx_B u (cx_A (wM u ad S sc) sz) (wM u ad S sc11) s H locs := by rw [hsc11, ← wM_s3]; exact B
                                refine lv_iinc (v := jI ((j : Int) + 1)) (lv' := [(5, .int (jI ((j : Int) + 1))), (0, .ref (ad 20 0)), (1, .int (jI (o))), (2, .long (jL (1000000000000000000))), (4, .int (jI ((k : Int) + 1)))]) X.1 X.2.1 dc_M_findHolds_209 hl (k := 4) rfl (jI_add _ _) (by decide) rfl (fun ls hl => ?_)
                                refine lv_goto (tgt := 166) X.1 X.2.1 dc_M_findHolds_212 (by decide) ?_
                                have h0 : ∀ x, x < j + 1 → sc11 1 x = cs_way S o (k + 1) x := fun x hx => by
                                  rw [hsc11, hsc10]
                                  by_cases hxj : x = j
                                  · rw [hxj]; simp [cs_su]; rw [v2 j]; exact w0 j (by omega)
                                  · simp [cs_su, hxj]; exact v0 x (by omega)
                                have h1 : ∀ x, x < j + 1 → sc11 3 x = cs_hold S o (k + 1) x := fun x hx => by
                                  rw [hsc11]
                                  by_cases hxj : x = j
                                  · rw [hxj]; simp [cs_su]; rw [e3, e2, v3 j (by omega) (by omega), w0 j (by omega)]; rfl
                                  · simp [cs_su, hxj]; rw [hsc10]; simp [cs_su]; exact v1 x (by omega)
                                have h2 : ∀ x, sc11 2 x = sc5 2 x := fun x => by rw [hsc11, hsc10]; simp [cs_su]; exact v2 x
                                have h3 : ∀ x, j + 1 ≤ x → x < 10 → sc11 3 x = cs_hold S o k x := fun x a b => by rw [hsc11, hsc10]; simp [cs_su, show ¬ x = j by omega]; exact v3 x (by omega) b
                                exact ih_27 (j + 1) ls _ _ sc11 h0 h1 h2 h3 (by omega) (by omega) B (by  exact lv_sub hl [1, 2, 3, 4, 0] rfl)
                          exact lp_25 ((10 : Int).toNat + 1) 0 ls _ _ sc5 (fun x hx => absurd hx (by omega)) (fun x hx => absurd hx (by omega)) (fun _ => rfl) (fun x _ hx => by rw [x3 x]; exact (k4 x hx).2) (by omega) (by omega) B (by  exact lv_sub hl [1, 2, 3, 4, 0] rfl)
                        · refine lv_aload_n X.1 X.2.1 dc_M_findHolds_92 rfl (lv_at hl 0 rfl) ?_
                          refine cx_get (v := .ref (ad 39 0)) X B (wM_20 u ad S sc5) rfl uw_M 23 (by decide) gf_M_73 rfl dc_M_findHolds_93 ?_
                          refine lv_iload X.1 X.2.1 dc_M_findHolds_96 (lv_at hl 4 rfl) ?_
                          refine cx_lconst (a := 0) X dc_M_findHolds_98 (by decide +kernel) ?_
                          refine cx_last X B (wM_39 u ad S sc5) (t) (by omega) (by omega) (by decide) dc_M_findHolds_99 (fun H locs B => ?_)
                          have B : cx_B u (cx_A (wM u ad S sc) sz) (cx_up (wM u ad S sc5) 39 0 (ad 39 0, .inl (u.2 1, 10, .inr (.inl (fun z_ => jL (va_up (fun z_ => sc5 2 z_) t 0 z_)))))) s H locs := B
                          obtain ⟨sc9, hsc9⟩ : ∃ z, z = cs_su sc5 2 t 0 := ⟨_, rfl⟩
                          have B : cx_B u (cx_A (wM u ad S sc) sz) (wM u ad S sc9) s H locs := by rw [hsc9, ← wM_s2]; exact B
                          refine cx_iconst X dc_M_findHolds_100 ?_
                          refine lv_istore (lv' := [(6, .int (jI (0))), (0, .ref (ad 20 0)), (1, .int (jI (o))), (2, .long (jL (1000000000000000000))), (4, .int (jI ((k : Int) + 1))), (5, .int (jI ((t : Int))))]) X.1 X.2.1 dc_M_findHolds_101 hl (by decide) rfl (fun ls hl => ?_)
                          have lp_31 : ∀ (n_32 q : Nat) (ls : Array Slot) (H : Heap) (locs : List Loc) (sc6 : Nat → Nat → Int) (y1 : ∀ j, sc6 1 j = sc5 1 j) (y3 : ∀ j, sc6 3 j = sc5 3 j) (y2 : ∀ j, j < t → sc6 2 j = cs_nx S (sc4 1) j) (yt : sc6 2 t = cs_sum (fun q => sc4 1 q / 100 * S 11 q t) q), (q : Int) ≤ 10 → 10 - (q : Int) < (n_32 : Int) → cx_B u (cx_A (wM u ad S sc) sz) (wM u ad S sc6) s H locs → lv_has ls 7 [(0, .ref (ad 20 0)), (1, .int (jI (o))), (2, .long (jL (1000000000000000000))), (4, .int (jI ((k : Int) + 1))), (5, .int (jI ((t : Int)))), (6, .int (jI ((q : Int))))] → W p l e (cx_R 0 0 0 0) s m args below meth c H locs 0 0 (MQ below (cx_Q u (wM u ad S sc) sz (none) (fun w' => ∃ sc', w' = wM u ad S sc' ∧ ∀ j, j < 10 → sc' 3 j = cs_hold S o 9 j)) args s 0 0 (cx_A (wM u ad S sc) sz)) (F0 m 103 ls []) := by
                            intro n_32
                            induction n_32 with
                            | zero => intro q ls H locs sc6 y1 y3 y2 yt hi_34 hn_35; exfalso; omega
                            | succ n_32 ih_33 =>
                              intro q ls H locs sc6 y1 y3 y2 yt hi_34 hn_35 B hl
                              have hwq := cs_way_b hI hP o k q
                              refine lv_iload X.1 X.2.1 dc_M_findHolds_103 (lv_at hl 5 rfl) ?_
                              refine cx_bipush X dc_M_findHolds_105 (by decide +kernel) ?_
                              refine cx_icmp_ge (tgt := 157) X (by omega) (by omega) (by omega) (by omega) dc_M_findHolds_107 (by decide) (fun c_36 => ?_) (fun c_36 => ?_)
                              · refine lv_iinc (v := jI ((t : Int) + 1)) (lv' := [(5, .int (jI ((t : Int) + 1))), (0, .ref (ad 20 0)), (1, .int (jI (o))), (2, .long (jL (1000000000000000000))), (4, .int (jI ((k : Int) + 1))), (6, .int (jI ((q : Int))))]) X.1 X.2.1 dc_M_findHolds_157 hl (k := 4) rfl (jI_add _ _) (by decide) rfl (fun ls hl => ?_)
                                refine lv_goto (tgt := 85) X.1 X.2.1 dc_M_findHolds_160 (by decide) ?_
                                have hq10 : q = 10 := by omega
                                exact ih_21 (t + 1) ls _ _ sc6 (fun j => by rw [y1 j]; exact x1 j) (fun j => by rw [y3 j]; exact x3 j) (fun j hj => by rcases (show j < t ∨ j = t by omega) with h | rfl; exact y2 j h; rw [yt, hq10]; rfl) (by omega) (by omega) B (by  exact lv_sub hl [1, 2, 3, 4, 0] rfl)
                              · refine lv_aload_n X.1 X.2.1 dc_M_findHolds_110 rfl (lv_at hl 0 rfl) ?_
                                refine cx_get (v := .ref (ad 39 0)) X B (wM_20 u ad S sc6) rfl uw_M 23 (by decide) gf_M_73 rfl dc_M_findHolds_111 ?_
                                refine lv_iload X.1 X.2.1 dc_M_findHolds_114 (lv_at hl 4 rfl) ?_
                                refine lv_aload_n X.1 X.2.1 dc_M_findHolds_116 rfl (lv_at hl 0 rfl) ?_
                                refine cx_get (v := .ref (ad 39 0)) X B (wM_20 u ad S sc6) rfl uw_M 23 (by decide) gf_M_73 rfl dc_M_findHolds_117 ?_
                                refine lv_iload X.1 X.2.1 dc_M_findHolds_120 (lv_at hl 4 rfl) ?_
                                refine cx_lald X B (wM_39 u ad S sc6) (t) (by omega) (by omega) (by decide) dc_M_findHolds_122 ?_
                                rw [yt]
                                refine lv_aload_n X.1 X.2.1 dc_M_findHolds_123 rfl (lv_at hl 0 rfl) ?_
                                refine cx_get (v := .ref (ad 38 0)) X B (wM_20 u ad S sc6) rfl uw_M 22 (by decide) gf_M_70 rfl dc_M_findHolds_124 ?_
                                refine lv_iload X.1 X.2.1 dc_M_findHolds_127 (lv_at hl 5 rfl) ?_
                                refine cx_lald X B (wM_38 u ad S sc6) (q) (by omega) (by omega) (by decide) dc_M_findHolds_129 ?_
                                rw [y1 q, x1 q]
                                have hkq := (k4 q (by omega)).1
                                refine cx_ldc2 (a := 100) X gk_M_142 (by decide +kernel) dc_M_findHolds_130 ?_
                                refine cx_ldiv X (by omega) (by omega) (by omega) (by omega) dc_M_findHolds_133 ?_
                                refine lv_aload_n X.1 X.2.1 dc_M_findHolds_134 rfl (lv_at hl 0 rfl) ?_
                                refine cx_get (v := .ref (ad 37 0)) X B (wM_20 u ad S sc6) rfl uw_M 21 (by decide) gf_M_67 rfl dc_M_findHolds_135 ?_
                                refine cx_bipush X dc_M_findHolds_138 (by decide +kernel) ?_
                                refine lv_iload X.1 X.2.1 dc_M_findHolds_140 (lv_at hl 5 rfl) ?_
                                refine cx_imul X dc_M_findHolds_142 ?_
                                refine lv_iload X.1 X.2.1 dc_M_findHolds_143 (lv_at hl 4 rfl) ?_
                                refine cx_iadd X dc_M_findHolds_145 ?_
                                refine cx_iald X B (wM_37 u ad S sc6) ((10 * q) + t) (by omega) (by omega) (by decide) dc_M_findHolds_146 ?_
                                rw [show ((10 * q) + t) / 10 = q by omega, show ((10 * q) + t) % 10 = t by omega]
                                have r_37 := hI.2.2.2.1 q t
                                refine cx_i2l X (by omega) (by omega) dc_M_findHolds_147 ?_
                                refine cx_lmul X dc_M_findHolds_148 ?_
                                refine cx_ladd X dc_M_findHolds_149 ?_
                                refine cx_last X B (wM_39 u ad S sc6) (t) (by omega) (by omega) (by decide) dc_M_findHolds_150 (fun H locs B => ?_)
                                have B : cx_B u (cx_A (wM u ad S sc) sz) (cx_up (wM u ad S sc6) 39 0 (ad 39 0, .inl (u.2 1, 10, .inr (.inl (fun z_ => jL (va_up (fun z_ => sc6 2 z_) t ((cs_sum (fun q => sc4 1 q / 100 * S 11 q t) q) + (((sc4 1 q) / 100) * (S 11 q t))) z_)))))) s H locs := B
                                obtain ⟨sc7, hsc7⟩ : ∃ z, z = cs_su sc6 2 t (cs_sum (fun q => sc4 1 q / 100 * S 11 q t) q + sc4 1 q / 100 * S 11 q t) := ⟨_, rfl⟩
                                have B : cx_B u (cx_A (wM u ad S sc) sz) (wM u ad S sc7) s H locs := by rw [hsc7, ← wM_s2]; exact B
                                refine lv_iinc (v := jI ((q : Int) + 1)) (lv' := [(6, .int (jI ((q : Int) + 1))), (0, .ref (ad 20 0)), (1, .int (jI (o))), (2, .long (jL (1000000000000000000))), (4, .int (jI ((k : Int) + 1))), (5, .int (jI ((t : Int))))]) X.1 X.2.1 dc_M_findHolds_151 hl (k := 5) rfl (jI_add _ _) (by decide) rfl (fun ls hl => ?_)
                                refine lv_goto (tgt := 103) X.1 X.2.1 dc_M_findHolds_154 (by decide) ?_
                                have g1 : ∀ j, sc7 1 j = sc5 1 j := fun j => by rw [hsc7]; simp [cs_su]; exact y1 j
                                have g3 : ∀ j, sc7 3 j = sc5 3 j := fun j => by rw [hsc7]; simp [cs_su]; exact y3 j
                                have g2 : ∀ j, j < t → sc7 2 j = cs_nx S (sc4 1) j := fun j hj => by rw [hsc7]; simp [cs_su, show ¬ j = t by omega]; exact y2 j hj
                                have gt : sc7 2 t = cs_sum (fun q => sc4 1 q / 100 * S 11 q t) (q + 1) := by rw [hsc7]; simp [cs_su]; rfl
                                exact ih_33 (q + 1) ls _ _ sc7 g1 g3 g2 gt (by omega) (by omega) B (by  exact lv_sub hl [1, 2, 3, 4, 5, 0] rfl)
                          exact lp_31 ((10 : Int).toNat + 1) 0 ls _ _ sc9 (fun j => by rw [hsc9]; simp [cs_su]) (fun j => by rw [hsc9]; simp [cs_su]) (fun j hj => by rw [hsc9]; simp [cs_su, show ¬ j = t by omega]; exact x2 j hj) (by rw [hsc9]; simp [cs_su]; rfl) (by omega) (by omega) B (by  exact lv_sub hl [1, 2, 3, 4, 5, 0] rfl)
                    exact lp_19 ((10 : Int).toNat + 1) 0 ls _ _ sc4 (fun _ => rfl) (fun _ => rfl) (fun j hj => absurd hj (by omega)) (by omega) (by omega) B (by  exact lv_sub hl [1, 2, 3, 4, 0] rfl)
              exact lp_13 ((9 : Int).toNat + 1) 0 ls _ _ sc1 (fun j hj => k0 j (by omega)) (by omega) (by omega) B (by  exact lv_sub hl [1, 2, 3, 0] rfl)
            · refine lv_aload_n X.1 X.2.1 dc_M_findHolds_34 rfl (lv_at hl 0 rfl) ?_
              refine cx_get (v := .ref (ad 38 0)) X B (wM_20 u ad S sc1) rfl uw_M 22 (by decide) gf_M_70 rfl dc_M_findHolds_35 ?_
              refine lv_iload X.1 X.2.1 dc_M_findHolds_38 (lv_at hl 3 rfl) ?_
              refine lv_iload X.1 X.2.1 dc_M_findHolds_40 (lv_at hl 3 rfl) ?_
              refine lv_iload_n X.1 X.2.1 dc_M_findHolds_42 rfl (lv_at hl 1 rfl) ?_
              refine cx_icmp_ne (tgt := 50) X (by omega) (by omega) (by omega) (by omega) dc_M_findHolds_43 (by decide) (fun c_38 => ?_) (fun c_38 => ?_)
              · refine cx_lconst (a := 0) X dc_M_findHolds_50 (by decide +kernel) ?_
                refine cx_last X B (wM_38 u ad S sc1) (i) (by omega) (by omega) (by decide) dc_M_findHolds_51 (fun H locs B => ?_)
                have B : cx_B u (cx_A (wM u ad S sc) sz) (cx_up (wM u ad S sc1) 38 0 (ad 38 0, .inl (u.2 1, 10, .inr (.inl (fun z_ => jL (va_up (fun z_ => sc1 1 z_) i 0 z_)))))) s H locs := B
                obtain ⟨sc2, hsc2⟩ : ∃ z, z = cs_su sc1 1 i 0 := ⟨_, rfl⟩
                have B : cx_B u (cx_A (wM u ad S sc) sz) (wM u ad S sc2) s H locs := by rw [hsc2, ← wM_s1]; exact B
                refine lv_aload_n X.1 X.2.1 dc_M_findHolds_52 rfl (lv_at hl 0 rfl) ?_
                refine cx_get (v := .ref (ad 40 0)) X B (wM_20 u ad S sc2) rfl uw_M 24 (by decide) gf_M_76 rfl dc_M_findHolds_53 ?_
                refine lv_iload X.1 X.2.1 dc_M_findHolds_56 (lv_at hl 3 rfl) ?_
                refine lv_aload_n X.1 X.2.1 dc_M_findHolds_58 rfl (lv_at hl 0 rfl) ?_
                refine cx_get (v := .ref (ad 38 0)) X B (wM_20 u ad S sc2) rfl uw_M 22 (by decide) gf_M_70 rfl dc_M_findHolds_59 ?_
                refine lv_iload X.1 X.2.1 dc_M_findHolds_62 (lv_at hl 3 rfl) ?_
                refine cx_lald X B (wM_38 u ad S sc2) (i) (by omega) (by omega) (by decide) dc_M_findHolds_64 ?_
                rw [show sc2 1 i = 0 by rw [hsc2]; simp [cs_su]]
                refine cx_last X B (wM_40 u ad S sc2) (i) (by omega) (by omega) (by decide) dc_M_findHolds_65 (fun H locs B => ?_)
                have B : cx_B u (cx_A (wM u ad S sc) sz) (cx_up (wM u ad S sc2) 40 0 (ad 40 0, .inl (u.2 1, 10, .inr (.inl (fun z_ => jL (va_up (fun z_ => sc2 3 z_) i 0 z_)))))) s H locs := B
                obtain ⟨sc3, hsc3⟩ : ∃ z, z = cs_su sc2 3 i 0 := ⟨_, rfl⟩
                have B : cx_B u (cx_A (wM u ad S sc) sz) (wM u ad S sc3) s H locs := by rw [hsc3, ← wM_s3]; exact B
                refine lv_iinc (v := jI ((i : Int) + 1)) (lv' := [(4, .int (jI ((i : Int) + 1))), (0, .ref (ad 20 0)), (1, .int (jI (o))), (2, .long (jL (1000000000000000000)))]) X.1 X.2.1 dc_M_findHolds_66 hl (k := 3) rfl (jI_add _ _) (by decide) rfl (fun ls hl => ?_)
                refine lv_goto (tgt := 27) X.1 X.2.1 dc_M_findHolds_69 (by decide) ?_
                exact ih_9 (i + 1) ls _ _ sc3 (fun j hj => by rw [hsc3, hsc2]; by_cases hji : j = i <;> simp [cs_su, hji] <;> first | exact k0 j (by omega) | (exact ⟨by show _ = (if (i : Int) = o then (1000000000000000000 : Int) else 0); rw [if_neg (by omega)], by show _ = (if (i : Int) = o then (1000000000000000000 : Int) else 0); rw [if_neg (by omega)]⟩)) (by omega) (by omega) B (by  exact lv_sub hl [1, 2, 3, 0] rfl)
              · refine lv_lload_n X.1 X.2.1 dc_M_findHolds_46 rfl (lv_at hl 2 rfl) ?_
                refine lv_goto (tgt := 51) X.1 X.2.1 dc_M_findHolds_47 (by decide) ?_
                refine cx_last X B (wM_38 u ad S sc1) (i) (by omega) (by omega) (by decide) dc_M_findHolds_51 (fun H locs B => ?_)
                have B : cx_B u (cx_A (wM u ad S sc) sz) (cx_up (wM u ad S sc1) 38 0 (ad 38 0, .inl (u.2 1, 10, .inr (.inl (fun z_ => jL (va_up (fun z_ => sc1 1 z_) i 1000000000000000000 z_)))))) s H locs := B
                obtain ⟨sc2, hsc2⟩ : ∃ z, z = cs_su sc1 1 i 1000000000000000000 := ⟨_, rfl⟩
                have B : cx_B u (cx_A (wM u ad S sc) sz) (wM u ad S sc2) s H locs := by rw [hsc2, ← wM_s1]; exact B
                refine lv_aload_n X.1 X.2.1 dc_M_findHolds_52 rfl (lv_at hl 0 rfl) ?_
                refine cx_get (v := .ref (ad 40 0)) X B (wM_20 u ad S sc2) rfl uw_M 24 (by decide) gf_M_76 rfl dc_M_findHolds_53 ?_
                refine lv_iload X.1 X.2.1 dc_M_findHolds_56 (lv_at hl 3 rfl) ?_
                refine lv_aload_n X.1 X.2.1 dc_M_findHolds_58 rfl (lv_at hl 0 rfl) ?_
                refine cx_get (v := .ref (ad 38 0)) X B (wM_20 u ad S sc2) rfl uw_M 22 (by decide) gf_M_70 rfl dc_M_findHolds_59 ?_
                refine lv_iload X.1 X.2.1 dc_M_findHolds_62 (lv_at hl 3 rfl) ?_
                refine cx_lald X B (wM_38 u ad S sc2) (i) (by omega) (by omega) (by decide) dc_M_findHolds_64 ?_
                rw [show sc2 1 i = 1000000000000000000 by rw [hsc2]; simp [cs_su]]
                refine cx_last X B (wM_40 u ad S sc2) (i) (by omega) (by omega) (by decide) dc_M_findHolds_65 (fun H locs B => ?_)
                have B : cx_B u (cx_A (wM u ad S sc) sz) (cx_up (wM u ad S sc2) 40 0 (ad 40 0, .inl (u.2 1, 10, .inr (.inl (fun z_ => jL (va_up (fun z_ => sc2 3 z_) i 1000000000000000000 z_)))))) s H locs := B
                obtain ⟨sc3, hsc3⟩ : ∃ z, z = cs_su sc2 3 i 1000000000000000000 := ⟨_, rfl⟩
                have B : cx_B u (cx_A (wM u ad S sc) sz) (wM u ad S sc3) s H locs := by rw [hsc3, ← wM_s3]; exact B
                refine lv_iinc (v := jI ((i : Int) + 1)) (lv' := [(4, .int (jI ((i : Int) + 1))), (0, .ref (ad 20 0)), (1, .int (jI (o))), (2, .long (jL (1000000000000000000)))]) X.1 X.2.1 dc_M_findHolds_66 hl (k := 3) rfl (jI_add _ _) (by decide) rfl (fun ls hl => ?_)
                refine lv_goto (tgt := 27) X.1 X.2.1 dc_M_findHolds_69 (by decide) ?_
                exact ih_9 (i + 1) ls _ _ sc3 (fun j hj => by rw [hsc3, hsc2]; by_cases hji : j = i <;> simp [cs_su, hji] <;> first | exact k0 j (by omega) | (exact ⟨by show _ = (if (i : Int) = o then (1000000000000000000 : Int) else 0); rw [if_pos (by omega)], by show _ = (if (i : Int) = o then (1000000000000000000 : Int) else 0); rw [if_pos (by omega)]⟩)) (by omega) (by omega) B (by  exact lv_sub hl [1, 2, 3, 0] rfl)
        exact lp_7 ((10 : Int).toNat + 1) 0 ls _ _ sc (fun j hj => absurd hj (by omega)) (by omega) (by omega) B (by  exact lv_sub hl [1, 2, 3, 0] rfl)
      · refine cx_ldc2 (a := 100) X gk_M_142 (by decide +kernel) dc_M_findHolds_12 ?_
        refine lv_lload_n X.1 X.2.1 dc_M_findHolds_15 rfl (lv_at hl 2 rfl) ?_
        refine cx_lmul X dc_M_findHolds_16 ?_
        refine lv_lstore_n (lv' := [(2, .long (jL (100 * (cs_pw k)))), (0, .ref (ad 20 0)), (1, .int (jI (o))), (4, .int (jI ((k : Int))))]) X.1 X.2.1 dc_M_findHolds_17 rfl hl (by decide) rfl (fun ls hl => ?_)
        refine lv_iinc (v := jI ((k : Int) + 1)) (lv' := [(4, .int (jI ((k : Int) + 1))), (2, .long (jL (100 * (cs_pw k)))), (0, .ref (ad 20 0)), (1, .int (jI (o)))]) X.1 X.2.1 dc_M_findHolds_18 hl (k := 3) rfl (jI_add _ _) (by decide) rfl (fun ls hl => ?_)
        refine lv_goto (tgt := 5) X.1 X.2.1 dc_M_findHolds_21 (by decide) ?_
        exact ih_3 (k + 1) ls _ _  (by omega) (by omega) B (by  exact lv_sub hl [2, 3, 1, 0] rfl)
  exact lp_1 ((9 : Int).toNat + 1) 0 ls _ _  (by omega) (by omega) B (by rw [show cs_pw 0 = 1 from rfl]; exact lv_sub hl [2, 3, 1, 0] rfl)
set_option maxHeartbeats 4000000 in
set_option maxRecDepth 100000 in
theorem c_M_hold (l : Launch) (u : cx_U) (sz : Nat) (ad : Nat → Nat → Nat) (S : cs_S) (sc : Nat → Nat → Int) (hI : cs_I S) (hP : cs_P S) (a b : Int) (a1 : -2147483648 ≤ a) (a2 : a ≤ 2147483647) (b1 : -2147483648 ≤ b) (b2 : b ≤ 2147483647) : cx_M l u mn_M_hold bc_M_hold 3 (some .long) 2 45 [.ref (ad 20 0), .int (jI (a)), .int (jI (b))] (wM u ad S sc) sz (some (.long (jL (cs_holdQ S a b)))) (fun w' => ∃ sc', w' = wM u ad S sc') 0 0 := by
  refine cx_M.of (by decide +kernel) (Nat.le_of_ble_eq_true rfl) ?_
  intro p e s m args below meth c ls hsz X hr hlk hin B hl
  have X : CallFix p m c bc_M_hold 3 s args GW "CatchSharesModel" := X
  have hl : lv_has ls 3 [(0, .ref (ad 20 0)), (1, .int (jI (a))), (2, .int (jI (b)))] := hl
  have hI1 := hI.1
  refine lv_iload_n X.1 X.2.1 dc_M_hold_0 rfl (lv_at hl 1 rfl) ?_
  refine cx_cSN (r := .int (jI (jB (0 ≤ a ∧ a < 10)))) (As := [.int (jI (a))]) (rest := []) X B kc_M_isOwner gm_M_93 (c_M_isOwner l u _ a (by omega) (by omega)) (fun _ _ _ h => h) ⟨(Nat.le_of_ble_eq_true rfl), (Nat.le_of_ble_eq_true rfl)⟩ ⟨(Nat.le_of_ble_eq_true rfl), (Nat.le_of_ble_eq_true rfl)⟩ rfl hl.1 (Nat.le_of_ble_eq_true rfl) dc_M_hold_1 rfl ?_
  refine cx_ifeqB (tgt := 14) X dc_M_hold_4 (by decide) (fun c_1 => ?_) (fun c_1 => ?_)
  · refine cx_ldc2 (a := -1) X gk_M_109 (by decide +kernel) dc_M_hold_14 ?_
    exact cx_lretM X B hsz hr hlk (Nat.le_of_ble_eq_true rfl) (Nat.le_of_ble_eq_true rfl) (by rw [cs_holdQ, if_neg (by omega)]) ⟨_, rfl⟩ dc_M_hold_17
  · refine lv_iload_n X.1 X.2.1 dc_M_hold_7 rfl (lv_at hl 2 rfl) ?_
    refine cx_cSN (r := .int (jI (jB (0 ≤ b ∧ b < 10)))) (As := [.int (jI (b))]) (rest := []) X B kc_M_isOwner gm_M_93 (c_M_isOwner l u _ b (by omega) (by omega)) (fun _ _ _ h => h) ⟨(Nat.le_of_ble_eq_true rfl), (Nat.le_of_ble_eq_true rfl)⟩ ⟨(Nat.le_of_ble_eq_true rfl), (Nat.le_of_ble_eq_true rfl)⟩ rfl hl.1 (Nat.le_of_ble_eq_true rfl) dc_M_hold_8 rfl ?_
    refine cx_ifneB (tgt := 18) X dc_M_hold_11 (by decide) (fun c_2 => ?_) (fun c_2 => ?_)
    · obtain ⟨j, rfl⟩ : ∃ j : Nat, b = (j : Int) := ⟨b.toNat, by omega⟩
      have hj : j < 10 := by omega
      refine lv_aload_n X.1 X.2.1 dc_M_hold_18 rfl (lv_at hl 0 rfl) ?_
      refine lv_iload_n X.1 X.2.1 dc_M_hold_19 rfl (lv_at hl 1 rfl) ?_
      refine cx_cVM (As := [.int (jI (a))]) (rest := []) X B kc_M_findHolds gm_M_148 (c_M_findHolds l u _ ad S sc hI hP a (by omega) (by omega)) (wM_20 u ad S sc) rfl rfl ⟨(Nat.le_of_ble_eq_true rfl), (Nat.le_of_ble_eq_true rfl)⟩ ⟨(Nat.le_of_ble_eq_true rfl), (Nat.le_of_ble_eq_true rfl)⟩ rfl hl.1 (Nat.le_of_ble_eq_true rfl) dc_M_hold_20 rfl (fun H locs w' hw B => ?_)
      obtain ⟨sc1, rfl, g0⟩ := hw
      refine lv_aload_n X.1 X.2.1 dc_M_hold_23 rfl (lv_at hl 0 rfl) ?_
      refine cx_get (v := .ref (ad 40 0)) X B (wM_20 u ad S sc1) rfl uw_M 24 (by decide) gf_M_76 rfl dc_M_hold_24 ?_
      refine lv_iload_n X.1 X.2.1 dc_M_hold_27 rfl (lv_at hl 2 rfl) ?_
      refine cx_lald X B (wM_40 u ad S sc1) (j) (by omega) (by omega) (by decide) dc_M_hold_28 ?_
      exact cx_lretM X B hsz hr hlk (Nat.le_of_ble_eq_true rfl) (Nat.le_of_ble_eq_true rfl) (by rw [cs_holdQ, if_pos (by omega), g0 j (by omega)]; rfl) ⟨_, rfl⟩ dc_M_hold_29
    · refine cx_ldc2 (a := -1) X gk_M_109 (by decide +kernel) dc_M_hold_14 ?_
      exact cx_lretM X B hsz hr hlk (Nat.le_of_ble_eq_true rfl) (Nat.le_of_ble_eq_true rfl) (by rw [cs_holdQ, if_neg (by omega)]) ⟨_, rfl⟩ dc_M_hold_17
set_option maxHeartbeats 4000000 in
set_option maxRecDepth 100000 in
theorem c_M_isAbove (l : Launch) (u : cx_U) (ad : Nat → Nat → Nat) (S : cs_S) (sc : Nat → Nat → Int) (hI : cs_I S) (hY : cs_Y S) (hf : ∀ q, q < 10 → 0 ≤ sc 3 q ∧ sc 3 q ≤ 1000000000000000000) (i : Nat) (hi : (i : Int) < S 0 0 0) : cx_N l u mn_M_isAbove bc_M_isAbove 10 (some .boolean) 1 24 [.ref (ad 20 0), .int (jI ((i : Int)))] (wM u ad S sc) (.int (jI (jB (cs_above S (sc 3) i)))) := by
  refine cx_N.of (by decide +kernel) (Nat.le_of_ble_eq_true rfl) ?_
  intro p e s m args below meth c ls A X hr hlk B hl
  have X : CallFix p m c bc_M_isAbove 10 s args GW "CatchSharesModel" := X
  have hl : lv_has ls 10 [(0, .ref (ad 20 0)), (1, .int (jI ((i : Int))))] := hl
  have hI1 := hI.1
  have hI2 := hI.2.1
  have hI5 := hI.2.2.2.2.1
  have hlim := cs_lim_b hI i
  have hlc : S 16 i 0 * cs_sum (S 20 i) 12 = cs_sum (S 20 i) 12 * S 16 i 0 := Int.mul_comm _ _
  refine cx_lconst (a := 0) X dc_M_isAbove_0 (by decide +kernel) ?_
  refine lv_lstore_n (lv' := [(2, .long (jL (0))), (0, .ref (ad 20 0)), (1, .int (jI ((i : Int))))]) X.1 X.2.1 dc_M_isAbove_1 rfl hl (by decide) rfl (fun ls hl => ?_)
  refine cx_lconst (a := 0) X dc_M_isAbove_2 (by decide +kernel) ?_
  refine lv_lstore (lv' := [(4, .long (jL (0))), (2, .long (jL (0))), (0, .ref (ad 20 0)), (1, .int (jI ((i : Int))))]) X.1 X.2.1 dc_M_isAbove_3 hl (by decide) rfl (fun ls hl => ?_)
  refine cx_iconst X dc_M_isAbove_5 ?_
  refine lv_istore (lv' := [(6, .int (jI (0))), (4, .long (jL (0))), (2, .long (jL (0))), (0, .ref (ad 20 0)), (1, .int (jI ((i : Int))))]) X.1 X.2.1 dc_M_isAbove_6 hl (by decide) rfl (fun ls hl => ?_)
  have lp_1 : ∀ (n_2 h : Nat) (ls : Array Slot) , (h : Int) ≤ S 1 0 0 → S 1 0 0 - (h : Int) < (n_2 : Int) → lv_has ls 10 [(0, .ref (ad 20 0)), (1, .int (jI ((i : Int)))), (2, .long (jL (cs_upr S (sc 3) i h))), (4, .long (jL (cs_lwr S (sc 3) i h))), (6, .int (jI ((h : Int))))] → W p l e (cx_R 1 24 0 0) s m args below meth c s.heap [] 0 0 (MQ below (fun _ st_ oc_ t_ => oc_ = .returned (some (.int (jI (jB (cs_above S (sc 3) i))))) ∧ t_.heap = st_.heap) args s 0 0 (fun _ => False)) (F0 m 8 ls []) := by
    intro n_2
    induction n_2 with
    | zero => intro h ls  hi_4 hn_5; exfalso; omega
    | succ n_2 ih_3 =>
      intro h ls  hi_4 hn_5 hl
      have hub := cs_upr_b hI hf i h
      have hlb := cs_lwr_b hI hf i h
      refine lv_iload X.1 X.2.1 dc_M_isAbove_8 (lv_at hl 4 rfl) ?_
      refine lv_aload_n X.1 X.2.1 dc_M_isAbove_10 rfl (lv_at hl 0 rfl) ?_
      refine cx_get (v := .int (jI (S 1 0 0))) X B (wM_20 u ad S sc) rfl uw_M 9 (by decide) gf_M_86 rfl dc_M_isAbove_11 ?_
      refine cx_icmp_ge (tgt := 83) X (by omega) (by omega) (by omega) (by omega) dc_M_isAbove_14 (by decide) (fun c_6 => ?_) (fun c_6 => ?_)
      · refine lv_lload_n X.1 X.2.1 dc_M_isAbove_83 rfl (lv_at hl 2 rfl) ?_
        refine lv_lload X.1 X.2.1 dc_M_isAbove_84 (lv_at hl 3 rfl) ?_
        refine cx_ldc2 (a := 1000000000) X gk_M_91 (by decide +kernel) dc_M_isAbove_86 ?_
        refine cx_ldiv X (by omega) (by omega) (by omega) (by omega) dc_M_isAbove_89 ?_
        refine cx_ladd X dc_M_isAbove_90 ?_
        refine lv_lstore_n (lv' := [(2, .long (jL ((cs_upr S (sc 3) i h) + ((cs_lwr S (sc 3) i h) / 1000000000)))), (0, .ref (ad 20 0)), (1, .int (jI ((i : Int)))), (4, .long (jL (cs_lwr S (sc 3) i h))), (6, .int (jI ((h : Int))))]) X.1 X.2.1 dc_M_isAbove_91 rfl hl (by decide) rfl (fun ls hl => ?_)
        refine lv_lload X.1 X.2.1 dc_M_isAbove_92 (lv_at hl 3 rfl) ?_
        refine cx_ldc2 (a := 1000000000) X gk_M_91 (by decide +kernel) dc_M_isAbove_94 ?_
        refine cx_lrem X (by omega) (by omega) (by omega) (by omega) dc_M_isAbove_97 ?_
        refine lv_lstore (lv' := [(4, .long (jL ((cs_lwr S (sc 3) i h) % 1000000000))), (2, .long (jL ((cs_upr S (sc 3) i h) + ((cs_lwr S (sc 3) i h) / 1000000000)))), (0, .ref (ad 20 0)), (1, .int (jI ((i : Int)))), (6, .int (jI ((h : Int))))]) X.1 X.2.1 dc_M_isAbove_98 hl (by decide) rfl (fun ls hl => ?_)
        refine lv_aload_n X.1 X.2.1 dc_M_isAbove_100 rfl (lv_at hl 2 rfl) ?_
        refine cx_get (v := .ref (ad 25 0)) X B (wM_20 u ad S sc) rfl uw_M 5 (by decide) gf_M_24 rfl dc_M_isAbove_101 ?_
        refine lv_iload_n X.1 X.2.1 dc_M_isAbove_104 rfl (lv_at hl 3 rfl) ?_
        refine cx_iald X B (wM_25 u ad S sc) (i) (by omega) (by omega) (by decide) dc_M_isAbove_105 ?_
        have r_7 := hI5 i
        refine cx_i2l X (by omega) (by omega) dc_M_isAbove_106 ?_
        refine lv_aload_n X.1 X.2.1 dc_M_isAbove_107 rfl (lv_at hl 2 rfl) ?_
        refine lv_iload_n X.1 X.2.1 dc_M_isAbove_108 rfl (lv_at hl 3 rfl) ?_
        refine cx_cVN (r := .long (jL (cs_sum (S 20 i) 12))) (As := [.int (jI ((i : Int)))]) (rest := [.long (jL (S 16 i 0))]) X B kc_M_allWeights gm_M_105 (c_M_allWeights l u ad S sc hI hY i hi) (fun _ _ _ h => h) (wM_20 u ad S sc) rfl rfl ⟨(Nat.le_of_ble_eq_true rfl), (Nat.le_of_ble_eq_true rfl)⟩ ⟨(Nat.le_of_ble_eq_true rfl), (Nat.le_of_ble_eq_true rfl)⟩ rfl hl.1 (Nat.le_of_ble_eq_true rfl) dc_M_isAbove_109 rfl ?_
        refine cx_lmul X dc_M_isAbove_112 ?_
        refine lv_lstore (lv' := [(6, .long (jL ((S 16 i 0) * (cs_sum (S 20 i) 12)))), (4, .long (jL ((cs_lwr S (sc 3) i h) % 1000000000))), (2, .long (jL ((cs_upr S (sc 3) i h) + ((cs_lwr S (sc 3) i h) / 1000000000)))), (0, .ref (ad 20 0)), (1, .int (jI ((i : Int))))]) X.1 X.2.1 dc_M_isAbove_113 hl (by decide) rfl (fun ls hl => ?_)
        rw [hlc] at hl
        refine lv_lload X.1 X.2.1 dc_M_isAbove_115 (lv_at hl 0 rfl) ?_
        refine cx_ldc2 (a := 10000000) X gk_M_152 (by decide +kernel) dc_M_isAbove_117 ?_
        refine cx_lmul X dc_M_isAbove_120 ?_
        refine lv_lstore (lv' := [(8, .long (jL ((cs_sum (S 20 i) 12 * S 16 i 0) * 10000000))), (6, .long (jL (cs_sum (S 20 i) 12 * S 16 i 0))), (4, .long (jL ((cs_lwr S (sc 3) i h) % 1000000000))), (2, .long (jL ((cs_upr S (sc 3) i h) + ((cs_lwr S (sc 3) i h) / 1000000000)))), (0, .ref (ad 20 0)), (1, .int (jI ((i : Int))))]) X.1 X.2.1 dc_M_isAbove_121 hl (by decide) rfl (fun ls hl => ?_)
        refine lv_lload_n X.1 X.2.1 dc_M_isAbove_123 rfl (lv_at hl 3 rfl) ?_
        refine lv_lload X.1 X.2.1 dc_M_isAbove_124 (lv_at hl 0 rfl) ?_
        refine cx_lcmp_gt (tgt := 144) X (by omega) (by omega) (by omega) (by omega) dc_M_isAbove_126 dc_M_isAbove_127 (by decide) (fun c_8 => ?_) (fun c_8 => ?_)
        · refine cx_iconst X dc_M_isAbove_144 ?_
          refine lv_goto (tgt := 149) X.1 X.2.1 dc_M_isAbove_145 (by decide) ?_
          have hh : (S 1 0 0).toNat = h := by omega
          exact cx_zretN X hr hlk (by omega) (by omega) (by rw [jB_t (by unfold cs_above; rw [hh]; omega)]) dc_M_isAbove_149
        · refine lv_lload_n X.1 X.2.1 dc_M_isAbove_130 rfl (lv_at hl 3 rfl) ?_
          refine lv_lload X.1 X.2.1 dc_M_isAbove_131 (lv_at hl 0 rfl) ?_
          refine cx_lcmp_ne (tgt := 148) X (by omega) (by omega) (by omega) (by omega) dc_M_isAbove_133 dc_M_isAbove_134 (by decide) (fun c_9 => ?_) (fun c_9 => ?_)
          · refine cx_iconst X dc_M_isAbove_148 ?_
            have hh : (S 1 0 0).toNat = h := by omega
            exact cx_zretN X hr hlk (by omega) (by omega) (by rw [jB_f (by unfold cs_above; rw [hh]; omega)]) dc_M_isAbove_149
          · refine lv_lload X.1 X.2.1 dc_M_isAbove_137 (lv_at hl 2 rfl) ?_
            refine cx_lconst (a := 0) X dc_M_isAbove_139 (by decide +kernel) ?_
            refine cx_lcmp_le (tgt := 148) X (by omega) (by omega) (by omega) (by omega) dc_M_isAbove_140 dc_M_isAbove_141 (by decide) (fun c_10 => ?_) (fun c_10 => ?_)
            · refine cx_iconst X dc_M_isAbove_148 ?_
              have hh : (S 1 0 0).toNat = h := by omega
              exact cx_zretN X hr hlk (by omega) (by omega) (by rw [jB_f (by unfold cs_above; rw [hh]; omega)]) dc_M_isAbove_149
            · refine cx_iconst X dc_M_isAbove_144 ?_
              refine lv_goto (tgt := 149) X.1 X.2.1 dc_M_isAbove_145 (by decide) ?_
              have hh : (S 1 0 0).toNat = h := by omega
              exact cx_zretN X hr hlk (by omega) (by omega) (by rw [jB_t (by unfold cs_above; rw [hh]; omega)]) dc_M_isAbove_149
      · refine lv_aload_n X.1 X.2.1 dc_M_isAbove_17 rfl (lv_at hl 0 rfl) ?_
        refine cx_get (v := .ref (ad 40 0)) X B (wM_20 u ad S sc) rfl uw_M 24 (by decide) gf_M_76 rfl dc_M_isAbove_18 ?_
        refine lv_aload_n X.1 X.2.1 dc_M_isAbove_21 rfl (lv_at hl 0 rfl) ?_
        refine cx_get (v := .ref (ad 29 0)) X B (wM_20 u ad S sc) rfl uw_M 10 (by decide) gf_M_36 rfl dc_M_isAbove_22 ?_
        refine lv_iload X.1 X.2.1 dc_M_isAbove_25 (lv_at hl 4 rfl) ?_
        refine cx_iald X B (wM_29 u ad S sc) (h) (by omega) (by omega) (by decide) dc_M_isAbove_27 ?_
        have r_11 := hI2 h
        refine cx_lald X B (wM_40 u ad S sc) ((S 5 h 0).toNat) (by omega) (by omega) (by decide) dc_M_isAbove_28 ?_
        have r_12 := hf ((S 5 h 0).toNat) (by omega)
        refine lv_lstore (lv' := [(7, .long (jL (sc 3 ((S 5 h 0).toNat)))), (0, .ref (ad 20 0)), (1, .int (jI ((i : Int)))), (2, .long (jL (cs_upr S (sc 3) i h))), (4, .long (jL (cs_lwr S (sc 3) i h))), (6, .int (jI ((h : Int))))]) X.1 X.2.1 dc_M_isAbove_29 hl (by decide) rfl (fun ls hl => ?_)
        refine lv_lload_n X.1 X.2.1 dc_M_isAbove_31 rfl (lv_at hl 3 rfl) ?_
        refine lv_aload_n X.1 X.2.1 dc_M_isAbove_32 rfl (lv_at hl 1 rfl) ?_
        refine cx_get (v := .ref (ad 31 0)) X B (wM_20 u ad S sc) rfl uw_M 12 (by decide) gf_M_42 rfl dc_M_isAbove_33 ?_
        refine cx_bipush X dc_M_isAbove_36 (by decide +kernel) ?_
        refine lv_iload_n X.1 X.2.1 dc_M_isAbove_38 rfl (lv_at hl 2 rfl) ?_
        refine cx_imul X dc_M_isAbove_39 ?_
        refine lv_iload X.1 X.2.1 dc_M_isAbove_40 (lv_at hl 5 rfl) ?_
        refine cx_iadd X dc_M_isAbove_42 ?_
        refine cx_lald X B (wM_31 u ad S sc) ((12 * i) + h) (by omega) (by omega) (by decide) dc_M_isAbove_43 ?_
        rw [show ((12 * i) + h) / 12 = i by omega, show ((12 * i) + h) % 12 = h by omega]
        refine lv_lload X.1 X.2.1 dc_M_isAbove_44 (lv_at hl 0 rfl) ?_
        refine cx_ldc2 (a := 1000000000) X gk_M_91 (by decide +kernel) dc_M_isAbove_46 ?_
        refine cx_ldiv X (by omega) (by omega) (by omega) (by omega) dc_M_isAbove_49 ?_
        refine cx_lmul X dc_M_isAbove_50 ?_
        refine cx_ladd X dc_M_isAbove_51 ?_
        refine lv_lstore_n (lv' := [(2, .long (jL ((cs_upr S (sc 3) i h) + ((S 20 i h) * ((sc 3 ((S 5 h 0).toNat)) / 1000000000))))), (7, .long (jL (sc 3 ((S 5 h 0).toNat)))), (0, .ref (ad 20 0)), (1, .int (jI ((i : Int)))), (4, .long (jL (cs_lwr S (sc 3) i h))), (6, .int (jI ((h : Int))))]) X.1 X.2.1 dc_M_isAbove_52 rfl hl (by decide) rfl (fun ls hl => ?_)
        refine lv_lload X.1 X.2.1 dc_M_isAbove_53 (lv_at hl 4 rfl) ?_
        refine lv_aload_n X.1 X.2.1 dc_M_isAbove_55 rfl (lv_at hl 2 rfl) ?_
        refine cx_get (v := .ref (ad 31 0)) X B (wM_20 u ad S sc) rfl uw_M 12 (by decide) gf_M_42 rfl dc_M_isAbove_56 ?_
        refine cx_bipush X dc_M_isAbove_59 (by decide +kernel) ?_
        refine lv_iload_n X.1 X.2.1 dc_M_isAbove_61 rfl (lv_at hl 3 rfl) ?_
        refine cx_imul X dc_M_isAbove_62 ?_
        refine lv_iload X.1 X.2.1 dc_M_isAbove_63 (lv_at hl 5 rfl) ?_
        refine cx_iadd X dc_M_isAbove_65 ?_
        refine cx_lald X B (wM_31 u ad S sc) ((12 * i) + h) (by omega) (by omega) (by decide) dc_M_isAbove_66 ?_
        rw [show ((12 * i) + h) / 12 = i by omega, show ((12 * i) + h) % 12 = h by omega]
        refine lv_lload X.1 X.2.1 dc_M_isAbove_67 (lv_at hl 1 rfl) ?_
        refine cx_ldc2 (a := 1000000000) X gk_M_91 (by decide +kernel) dc_M_isAbove_69 ?_
        refine cx_lrem X (by omega) (by omega) (by omega) (by omega) dc_M_isAbove_72 ?_
        refine cx_lmul X dc_M_isAbove_73 ?_
        refine cx_ladd X dc_M_isAbove_74 ?_
        refine lv_lstore (lv' := [(4, .long (jL ((cs_lwr S (sc 3) i h) + ((S 20 i h) * ((sc 3 ((S 5 h 0).toNat)) % 1000000000))))), (2, .long (jL ((cs_upr S (sc 3) i h) + ((S 20 i h) * ((sc 3 ((S 5 h 0).toNat)) / 1000000000))))), (7, .long (jL (sc 3 ((S 5 h 0).toNat)))), (0, .ref (ad 20 0)), (1, .int (jI ((i : Int)))), (6, .int (jI ((h : Int))))]) X.1 X.2.1 dc_M_isAbove_75 hl (by decide) rfl (fun ls hl => ?_)
        refine lv_iinc (v := jI ((h : Int) + 1)) (lv' := [(6, .int (jI ((h : Int) + 1))), (4, .long (jL ((cs_lwr S (sc 3) i h) + ((S 20 i h) * ((sc 3 ((S 5 h 0).toNat)) % 1000000000))))), (2, .long (jL ((cs_upr S (sc 3) i h) + ((S 20 i h) * ((sc 3 ((S 5 h 0).toNat)) / 1000000000))))), (7, .long (jL (sc 3 ((S 5 h 0).toNat)))), (0, .ref (ad 20 0)), (1, .int (jI ((i : Int))))]) X.1 X.2.1 dc_M_isAbove_77 hl (k := 5) rfl (jI_add _ _) (by decide) rfl (fun ls hl => ?_)
        refine lv_goto (tgt := 8) X.1 X.2.1 dc_M_isAbove_80 (by decide) ?_
        exact ih_3 (h + 1) ls  (by omega) (by omega) (by  exact lv_sub hl [4, 5, 2, 1, 0] rfl)
  exact lp_1 ((S 1 0 0 : Int).toNat + 1) 0 ls  (by omega) (by omega) (by  exact lv_sub hl [3, 4, 2, 1, 0] rfl)
set_option maxHeartbeats 4000000 in
set_option maxRecDepth 100000 in
theorem c_M_capped (l : Launch) (u : cx_U) (sz : Nat) (ad : Nat → Nat → Nat) (S : cs_S) (sc : Nat → Nat → Int) (hI : cs_I S) (hY : cs_Y S) (hP : cs_P S) (hH : cs_H S) (a : Int) (a1 : -2147483648 ≤ a) (a2 : a ≤ 2147483647) : cx_M l u mn_M_capped bc_M_capped 4 (some .boolean) 2 53 [.ref (ad 20 0), .int (jI (a))] (wM u ad S sc) sz (some (.int (jI (jB (cs_capP S a))))) (fun w' => ∃ sc', w' = wM u ad S sc') 0 0 := by
  refine cx_M.of (by decide +kernel) (Nat.le_of_ble_eq_true rfl) ?_
  intro p e s m args below meth c ls hsz X hr hlk hin B hl
  have X : CallFix p m c bc_M_capped 4 s args GW "CatchSharesModel" := X
  have hl : lv_has ls 4 [(0, .ref (ad 20 0)), (1, .int (jI (a)))] := hl
  have hI1 := hI.1
  refine lv_iload_n X.1 X.2.1 dc_M_capped_0 rfl (lv_at hl 1 rfl) ?_
  refine cx_cSN (r := .int (jI (jB (0 ≤ a ∧ a < 10)))) (As := [.int (jI (a))]) (rest := []) X B kc_M_isOwner gm_M_93 (c_M_isOwner l u _ a (by omega) (by omega)) (fun _ _ _ h => h) ⟨(Nat.le_of_ble_eq_true rfl), (Nat.le_of_ble_eq_true rfl)⟩ ⟨(Nat.le_of_ble_eq_true rfl), (Nat.le_of_ble_eq_true rfl)⟩ rfl hl.1 (Nat.le_of_ble_eq_true rfl) dc_M_capped_1 rfl ?_
  refine cx_ifneB (tgt := 9) X dc_M_capped_4 (by decide) (fun c_1 => ?_) (fun c_1 => ?_)
  · refine lv_aload_n X.1 X.2.1 dc_M_capped_9 rfl (lv_at hl 0 rfl) ?_
    refine lv_iload_n X.1 X.2.1 dc_M_capped_10 rfl (lv_at hl 1 rfl) ?_
    refine cx_cVM (As := [.int (jI (a))]) (rest := []) X B kc_M_findHolds gm_M_148 (c_M_findHolds l u _ ad S sc hI hP a (by omega) (by omega)) (wM_20 u ad S sc) rfl rfl ⟨(Nat.le_of_ble_eq_true rfl), (Nat.le_of_ble_eq_true rfl)⟩ ⟨(Nat.le_of_ble_eq_true rfl), (Nat.le_of_ble_eq_true rfl)⟩ rfl hl.1 (Nat.le_of_ble_eq_true rfl) dc_M_capped_11 rfl (fun H locs w' hw B => ?_)
    obtain ⟨sc1, rfl, g0⟩ := hw
    have hf : ∀ q, q < 10 → 0 ≤ sc1 3 q ∧ sc1 3 q ≤ 1000000000000000000 := fun q hq => by rw [g0 q hq]; exact hH a q
    refine cx_iconst X dc_M_capped_14 ?_
    refine lv_istore_n (lv' := [(2, .int (jI (0))), (0, .ref (ad 20 0)), (1, .int (jI (a)))]) X.1 X.2.1 dc_M_capped_15 rfl hl (by decide) rfl (fun ls hl => ?_)
    refine cx_iconst X dc_M_capped_16 ?_
    refine lv_istore_n (lv' := [(3, .int (jI (0))), (2, .int (jI (0))), (0, .ref (ad 20 0)), (1, .int (jI (a)))]) X.1 X.2.1 dc_M_capped_17 rfl hl (by decide) rfl (fun ls hl => ?_)
    have lp_2 : ∀ (n_3 i : Nat) (ls : Array Slot) (H : Heap) (locs : List Loc) , (i : Int) ≤ S 0 0 0 → S 0 0 0 - (i : Int) < (n_3 : Int) → cx_B u (cx_A (wM u ad S sc) sz) (wM u ad S sc1) s H locs → lv_has ls 4 [(0, .ref (ad 20 0)), (1, .int (jI (a))), (2, .int (jI (jB (∃ q : Nat, q < i ∧ cs_above S (sc1 3) q)))), (3, .int (jI ((i : Int))))] → W p l e (cx_R 2 53 0 0) s m args below meth c H locs 0 0 (MQ below (cx_Q u (wM u ad S sc) sz (some (.int (jI (jB (cs_capP S a))))) (fun w' => ∃ sc', w' = wM u ad S sc')) args s 0 0 (cx_A (wM u ad S sc) sz)) (F0 m 18 ls []) := by
      intro n_3
      induction n_3 with
      | zero => intro i ls H locs  hi_5 hn_6; exfalso; omega
      | succ n_3 ih_4 =>
        intro i ls H locs  hi_5 hn_6 B hl
        refine lv_iload_n X.1 X.2.1 dc_M_capped_18 rfl (lv_at hl 3 rfl) ?_
        refine lv_aload_n X.1 X.2.1 dc_M_capped_19 rfl (lv_at hl 0 rfl) ?_
        refine cx_get (v := .int (jI (S 0 0 0))) X B (wM_20 u ad S sc1) rfl uw_M 0 (by decide) gf_M_79 rfl dc_M_capped_20 ?_
        refine cx_icmp_ge (tgt := 50) X (by omega) (by omega) (by omega) (by omega) dc_M_capped_23 (by decide) (fun c_7 => ?_) (fun c_7 => ?_)
        · refine lv_iload_n X.1 X.2.1 dc_M_capped_50 rfl (lv_at hl 2 rfl) ?_
          exact cx_zretM X B hsz hr hlk (Nat.le_of_ble_eq_true rfl) (Nat.le_of_ble_eq_true rfl) (jB_r _).1 (jB_r _).2 (congrArg (fun q => some (Value.int (jI q))) (jB_c ⟨fun q => ⟨by omega, by obtain ⟨q, h1, h2⟩ := q; exact ⟨q, by omega, (cs_above_c hI g0 q).mp h2⟩⟩, fun q => by obtain ⟨-, q, h1, h2⟩ := q; exact ⟨q, by omega, (cs_above_c hI g0 q).mpr h2⟩⟩)) ⟨_, rfl⟩ dc_M_capped_51
        · refine lv_iload_n X.1 X.2.1 dc_M_capped_26 rfl (lv_at hl 2 rfl) ?_
          refine cx_ifneB (tgt := 38) X dc_M_capped_27 (by decide) (fun c_8 => ?_) (fun c_8 => ?_)
          · refine cx_iconst X dc_M_capped_38 ?_
            refine lv_goto (tgt := 43) X.1 X.2.1 dc_M_capped_39 (by decide) ?_
            refine lv_istore_n (lv' := [(2, .int (jI (1))), (0, .ref (ad 20 0)), (1, .int (jI (a))), (3, .int (jI ((i : Int))))]) X.1 X.2.1 dc_M_capped_43 rfl hl (by decide) rfl (fun ls hl => ?_)
            refine lv_iinc (v := jI ((i : Int) + 1)) (lv' := [(3, .int (jI ((i : Int) + 1))), (2, .int (jI (1))), (0, .ref (ad 20 0)), (1, .int (jI (a)))]) X.1 X.2.1 dc_M_capped_44 hl (k := 3) rfl (jI_add _ _) (by decide) rfl (fun ls hl => ?_)
            refine lv_goto (tgt := 18) X.1 X.2.1 dc_M_capped_47 (by decide) ?_
            have qq : jB (∃ q : Nat, q < i + 1 ∧ cs_above S (sc1 3) q) = 1 := jB_t (by obtain ⟨q, h1, h2⟩ := c_8; exact ⟨q, by omega, h2⟩)
            exact ih_4 (i + 1) ls _ _  (by omega) (by omega) B (by rw [qq]; exact lv_sub hl [2, 3, 1, 0] rfl)
          · refine lv_aload_n X.1 X.2.1 dc_M_capped_30 rfl (lv_at hl 0 rfl) ?_
            refine lv_iload_n X.1 X.2.1 dc_M_capped_31 rfl (lv_at hl 3 rfl) ?_
            refine cx_cVN (r := .int (jI (jB (cs_above S (sc1 3) i)))) (As := [.int (jI ((i : Int)))]) (rest := []) X B kc_M_isAbove gm_M_154 (c_M_isAbove l u ad S sc1 hI hY hf i (by omega)) (fun _ _ _ h => h) (wM_20 u ad S sc1) rfl rfl ⟨(Nat.le_of_ble_eq_true rfl), (Nat.le_of_ble_eq_true rfl)⟩ ⟨(Nat.le_of_ble_eq_true rfl), (Nat.le_of_ble_eq_true rfl)⟩ rfl hl.1 (Nat.le_of_ble_eq_true rfl) dc_M_capped_32 rfl ?_
            refine cx_ifeqB (tgt := 42) X dc_M_capped_35 (by decide) (fun c_9 => ?_) (fun c_9 => ?_)
            · refine cx_iconst X dc_M_capped_42 ?_
              refine lv_istore_n (lv' := [(2, .int (jI (0))), (0, .ref (ad 20 0)), (1, .int (jI (a))), (3, .int (jI ((i : Int))))]) X.1 X.2.1 dc_M_capped_43 rfl hl (by decide) rfl (fun ls hl => ?_)
              refine lv_iinc (v := jI ((i : Int) + 1)) (lv' := [(3, .int (jI ((i : Int) + 1))), (2, .int (jI (0))), (0, .ref (ad 20 0)), (1, .int (jI (a)))]) X.1 X.2.1 dc_M_capped_44 hl (k := 3) rfl (jI_add _ _) (by decide) rfl (fun ls hl => ?_)
              refine lv_goto (tgt := 18) X.1 X.2.1 dc_M_capped_47 (by decide) ?_
              have qq : jB (∃ q : Nat, q < i + 1 ∧ cs_above S (sc1 3) q) = 0 := jB_f (fun q => by obtain ⟨q, h1, h2⟩ := q; rcases (show q < i ∨ q = i by omega) with h | rfl; exact c_8 ⟨q, h, h2⟩; exact c_9 h2)
              exact ih_4 (i + 1) ls _ _  (by omega) (by omega) B (by rw [qq]; exact lv_sub hl [2, 3, 1, 0] rfl)
            · refine cx_iconst X dc_M_capped_38 ?_
              refine lv_goto (tgt := 43) X.1 X.2.1 dc_M_capped_39 (by decide) ?_
              refine lv_istore_n (lv' := [(2, .int (jI (1))), (0, .ref (ad 20 0)), (1, .int (jI (a))), (3, .int (jI ((i : Int))))]) X.1 X.2.1 dc_M_capped_43 rfl hl (by decide) rfl (fun ls hl => ?_)
              refine lv_iinc (v := jI ((i : Int) + 1)) (lv' := [(3, .int (jI ((i : Int) + 1))), (2, .int (jI (1))), (0, .ref (ad 20 0)), (1, .int (jI (a)))]) X.1 X.2.1 dc_M_capped_44 hl (k := 3) rfl (jI_add _ _) (by decide) rfl (fun ls hl => ?_)
              refine lv_goto (tgt := 18) X.1 X.2.1 dc_M_capped_47 (by decide) ?_
              have qq : jB (∃ q : Nat, q < i + 1 ∧ cs_above S (sc1 3) q) = 1 := jB_t ⟨i, by omega, c_9⟩
              exact ih_4 (i + 1) ls _ _  (by omega) (by omega) B (by rw [qq]; exact lv_sub hl [2, 3, 1, 0] rfl)
    exact lp_2 ((S 0 0 0 : Int).toNat + 1) 0 ls _ _  (by omega) (by omega) B (by rw [show jB (∃ q : Nat, q < 0 ∧ cs_above S (sc1 3) q) = 0 from jB_f (fun q => by obtain ⟨q, h1, -⟩ := q; omega)]; exact lv_sub hl [2, 3, 1, 0] rfl)
  · refine cx_iconst X dc_M_capped_7 ?_
    exact cx_zretM X B hsz hr hlk (Nat.le_of_ble_eq_true rfl) (Nat.le_of_ble_eq_true rfl) (by omega) (by omega) (by rw [jB_f (fun q => by have q1 := q.1; omega)]) ⟨_, rfl⟩ dc_M_capped_8
