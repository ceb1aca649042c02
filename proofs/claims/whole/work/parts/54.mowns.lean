/-! WAYS -/
/-- reached from o over at most n links -/
def cs_rs (S : cs_S) (o : Int) : Nat → Nat → Prop
  | 0 => fun p => (p : Int) = o
  | n + 1 => fun p => cs_rs S o n p ∨ ∃ q, q < 10 ∧ cs_rs S o n q ∧ 0 < S 11 q p
theorem cs_rs_le {S : cs_S} {o : Int} {n m p : Nat} (h : n ≤ m) (hr : cs_rs S o n p) : cs_rs S o m p := by
  induction m with
  | zero => rw [show n = 0 by omega] at hr; exact hr
  | succ m ih =>
    rcases (show n ≤ m ∨ n = m + 1 by omega) with q | q
    · exact Or.inl (ih q)
    · rw [← q]; exact hr
theorem cs_sum_nn {f : Nat → Int} {n : Nat} (h : ∀ k, k < n → 0 ≤ f k) : 0 ≤ cs_sum f n := by
  induction n with
  | zero => exact Int.le_refl 0
  | succ n ih =>
    have := ih (fun k hk => h k (by omega))
    have := h n (by omega)
    rw [cs_sum_s]; omega
theorem cs_sum_ge {f : Nat → Int} {n k : Nat} (h : ∀ k, k < n → 0 ≤ f k) (hk : k < n) : f k ≤ cs_sum f n := by
  induction n with
  | zero => omega
  | succ n ih =>
    have h1 := cs_sum_nn (f := f) (n := n) (fun k hk => h k (by omega))
    have h2 := h n (by omega)
    rw [cs_sum_s]
    rcases (show k < n ∨ k = n by omega) with q | q
    · have := ih (fun k hk => h k (by omega)) q; omega
    · rw [q]; omega
theorem cs_sum_ex {f : Nat → Int} {n : Nat} (h : 0 < cs_sum f n) : ∃ k, k < n ∧ 0 < f k := by
  induction n with
  | zero => exact absurd h (by simp [cs_sum])
  | succ n ih =>
    rw [cs_sum_s] at h
    rcases Int.lt_or_le 0 (f n) with q | q
    · exact ⟨n, by omega, q⟩
    · obtain ⟨k, h1, h2⟩ := ih (by omega)
      exact ⟨k, by omega, h2⟩
theorem cs_way_rs {S : cs_S} (hI : cs_I S) (hP : cs_P S) {o : Int} {n : Nat} : ∀ {p : Nat}, 0 < cs_way S o n p → cs_rs S o n p := by
  induction n with
  | zero =>
    intro p h
    have h1 : 0 < (if (p : Int) = o then (1000000000000000000 : Int) else 0) := h
    show (p : Int) = o
    split at h1
    · assumption
    · omega
  | succ n ih =>
    intro p h
    obtain ⟨q, hq, h1⟩ := cs_sum_ex (f := fun q => cs_way S o n q / 100 * S 11 q p) h
    have h2 := cs_way_b hI hP o n q
    have h3 := (hI.2.2.2.1 q p).1
    have h4 : 0 < cs_way S o n q / 100 := by
      rcases Int.lt_or_le 0 (cs_way S o n q / 100) with z | z
      · exact z
      · exfalso
        have h5 : cs_way S o n q / 100 = 0 := by omega
        simp only [h5, Int.zero_mul] at h1
        omega
    have h5 : 0 < S 11 q p := by
      rcases Int.lt_or_le 0 (S 11 q p) with z | z
      · exact z
      · exfalso
        have h5 : S 11 q p = 0 := by omega
        simp only [h5, Int.mul_zero] at h1
        omega
    exact Or.inr ⟨q, hq, ih (by omega), h5⟩
theorem cs_hold_rs {S : cs_S} (hI : cs_I S) (hP : cs_P S) {o : Int} {n p : Nat} (h : 0 < cs_hold S o n p) : cs_rs S o n p := by
  induction n with
  | zero => exact cs_way_rs hI hP h
  | succ n ih =>
    have h1 : 0 < cs_hold S o n p + cs_way S o (n + 1) p := h
    rcases Int.lt_or_le 0 (cs_hold S o n p) with q | q
    · exact Or.inl (ih q)
    · exact cs_way_rs hI hP (by omega)
theorem cs_hold_0 {S : cs_S} (hI : cs_I S) (hP : cs_P S) (o : Int) (n p : Nat) : 0 ≤ cs_hold S o n p := by
  induction n with
  | zero => exact (cs_way_b hI hP o 0 p).1
  | succ n ih =>
    have := (cs_way_b hI hP o (n + 1) p).1
    show 0 ≤ cs_hold S o n p + cs_way S o (n + 1) p
    omega
theorem cs_way_hold {S : cs_S} (hI : cs_I S) (hP : cs_P S) (o : Int) {l n : Nat} (p : Nat) (h : l ≤ n) : cs_way S o l p ≤ cs_hold S o n p := by
  induction n with
  | zero => rw [show l = 0 by omega]; exact Int.le_refl _
  | succ n ih =>
    have h1 := (cs_way_b hI hP o (n + 1) p).1
    have h2 := cs_hold_0 hI hP o n p
    show _ ≤ cs_hold S o n p + cs_way S o (n + 1) p
    rcases (show l ≤ n ∨ l = n + 1 by omega) with q | q
    · have := ih q; omega
    · rw [q]; omega
theorem cs_hold_way {S : cs_S} {o : Int} {n p : Nat} (h : 0 < cs_hold S o n p) : ∃ l, l ≤ n ∧ 0 < cs_way S o l p := by
  induction n with
  | zero => exact ⟨0, Nat.le_refl 0, h⟩
  | succ n ih =>
    have h1 : 0 < cs_hold S o n p + cs_way S o (n + 1) p := h
    rcases Int.lt_or_le 0 (cs_hold S o n p) with q | q
    · obtain ⟨l, h2, h3⟩ := ih q
      exact ⟨l, by omega, h3⟩
    · exact ⟨n + 1, Nat.le_refl _, by omega⟩
theorem cs_sum_dv {f : Nat → Int} {c : Int} {n : Nat} (h : ∀ k, k < n → ∃ m, f k = c * m) : ∃ m, cs_sum f n = c * m := by
  induction n with
  | zero => exact ⟨0, by simp [cs_sum]⟩
  | succ n ih =>
    obtain ⟨a, ha⟩ := ih (fun k hk => h k (by omega))
    obtain ⟨b, hb⟩ := h n (by omega)
    exact ⟨a + b, by rw [cs_sum_s, ha, hb, Int.mul_add]⟩
theorem cs_way_dv (S : cs_S) (o : Int) {n k : Nat} (h : n + k = 9) : ∀ j, ∃ m, cs_way S o n j = cs_pw k * m := by
  induction n generalizing k with
  | zero =>
    intro j
    rw [show k = 9 by omega]
    show ∃ m, (if (j : Int) = o then (1000000000000000000 : Int) else 0) = cs_pw 9 * m
    split
    · exact ⟨1, rfl⟩
    · exact ⟨0, rfl⟩
  | succ n ih =>
    intro j
    refine cs_sum_dv (f := fun q => cs_way S o n q / 100 * S 11 q j) (fun q _ => ?_)
    obtain ⟨m, hm⟩ := ih (k := k + 1) (by omega) q
    refine ⟨m * S 11 q j, ?_⟩
    show cs_way S o n q / 100 * S 11 q j = _
    rw [hm]
    show (100 * cs_pw k * m) / 100 * S 11 q j = _
    rw [Int.mul_assoc, Int.mul_ediv_cancel_left _ (by decide), Int.mul_assoc]
theorem cs_rs_hold {S : cs_S} (hI : cs_I S) (hP : cs_P S) {o : Int} {n p : Nat} (hn : n ≤ 9) (h : cs_rs S o n p) : 0 < cs_hold S o n p := by
  induction n generalizing p with
  | zero =>
    have h1 : (p : Int) = o := h
    show 0 < (if (p : Int) = o then (1000000000000000000 : Int) else 0)
    rw [if_pos h1]; decide
  | succ n ih =>
    rcases h with h | ⟨q, hq, h1, h2⟩
    · have := ih (by omega) h
      have := (cs_way_b hI hP o (n + 1) p).1
      show 0 < cs_hold S o n p + cs_way S o (n + 1) p
      omega
    · obtain ⟨l, hl, hw⟩ := cs_hold_way (ih (by omega) h1)
      obtain ⟨m, hm⟩ := cs_way_dv S o (n := l) (k := 8 - l + 1) (by omega) q
      have h3 : 0 < cs_way S o l q / 100 := by
        have h4 : cs_way S o l q = 100 * (cs_pw (8 - l) * m) := by rw [hm, ← Int.mul_assoc]; rfl
        rw [h4] at hw
        rw [h4, Int.mul_ediv_cancel_left _ (by decide)]
        omega
      have h5 : 0 < cs_way S o l q / 100 * S 11 q p := Int.mul_pos h3 h2
      have h6 := cs_sum_ge (f := fun q => cs_way S o l q / 100 * S 11 q p) (n := 10) (k := q) (fun k _ => Int.mul_nonneg (by have := (cs_way_b hI hP o l k).1; omega) (hI.2.2.2.1 k p).1) hq
      have h7 := cs_way_hold hI hP o (l := l + 1) (n := n + 1) p (by omega)
      have h8 : cs_way S o (l + 1) p = cs_sum (fun q => cs_way S o l q / 100 * S 11 q p) 10 := rfl
      have h9 : 0 < cs_sum (fun q => cs_way S o l q / 100 * S 11 q p) 10 := Int.lt_of_lt_of_le h5 h6
      omega
/-- ten owners: nine links are enough -/
noncomputable def cs_rc (S : cs_S) (o : Int) (n : Nat) : Int := cs_sum (fun p => jB (cs_rs S o n p)) 10
theorem cs_sum_lt {f g : Nat → Int} {n : Nat} (h : ∀ k, k < n → f k ≤ g k) : cs_sum f n ≤ cs_sum g n ∧ ((∃ k, k < n ∧ f k < g k) → cs_sum f n < cs_sum g n) := by
  induction n with
  | zero => exact ⟨Int.le_refl _, fun ⟨k, h1, _⟩ => absurd h1 (by omega)⟩
  | succ n ih =>
    have h1 := ih (fun k hk => h k (by omega))
    have h2 := h n (by omega)
    rw [cs_sum_s, cs_sum_s]
    refine ⟨by omega, fun ⟨k, h3, h4⟩ => ?_⟩
    rcases (show k < n ∨ k = n by omega) with q | q
    · have := h1.2 ⟨k, q, h4⟩; omega
    · rw [q] at h4; omega
theorem cs_rs_stab {S : cs_S} {o : Int} {n : Nat} (h : ∀ p, p < 10 → cs_rs S o (n + 1) p → cs_rs S o n p) (m : Nat) : ∀ p, p < 10 → cs_rs S o (n + m) p → cs_rs S o n p := by
  induction m with
  | zero => exact fun p _ hr => hr
  | succ m ih =>
    intro p hp hr
    rcases hr with hr | ⟨q, hq, h1, h2⟩
    · exact ih p hp hr
    · exact h p hp (Or.inr ⟨q, hq, ih q hq h1, h2⟩)
theorem cs_rs_9 {S : cs_S} {o : Int} (ho : 0 ≤ o) (ho2 : o < 10) {m p : Nat} (hp : p < 10) (hr : cs_rs S o m p) : cs_rs S o 9 p := by
  have key : ∃ n, n ≤ 9 ∧ ∀ p, p < 10 → cs_rs S o (n + 1) p → cs_rs S o n p := by
    by_cases hc : ∃ n, n ≤ 9 ∧ ∀ p, p < 10 → cs_rs S o (n + 1) p → cs_rs S o n p
    · exact hc
    · exfalso
      have hg : ∀ n : Nat, n ≤ 10 → (n : Int) + 1 ≤ cs_rc S o n := by
        intro n
        induction n with
        | zero =>
          intro _
          have h1 := cs_sum_ge (f := fun p => jB (cs_rs S o 0 p)) (n := 10) (k := o.toNat) (fun k _ => (jB_r _).1) (by omega)
          have h2 : jB (cs_rs S o 0 o.toNat) = 1 := jB_t (show ((o.toNat : Nat) : Int) = o by omega)
          simp only [h2] at h1
          show (0 : Int) + 1 ≤ cs_sum (fun p => jB (cs_rs S o 0 p)) 10
          omega
        | succ n ih =>
          intro hn
          have h1 := ih (by omega)
          have h2 : ∃ k, k < 10 ∧ jB (cs_rs S o n k) < jB (cs_rs S o (n + 1) k) := by
            by_cases hz : ∃ k, k < 10 ∧ jB (cs_rs S o n k) < jB (cs_rs S o (n + 1) k)
            · exact hz
            · exfalso
              refine hc ⟨n, by omega, fun p hp hr => ?_⟩
              by_cases hy : cs_rs S o n p
              · exact hy
              · exact absurd ⟨p, hp, by rw [jB_f hy, jB_t hr]; decide⟩ hz
          have h3 := (cs_sum_lt (f := fun k => jB (cs_rs S o n k)) (g := fun k => jB (cs_rs S o (n + 1) k)) (n := 10) (fun k _ => by
            show jB (cs_rs S o n k) ≤ jB (cs_rs S o (n + 1) k)
            by_cases hy : cs_rs S o n k
            · rw [jB_t hy, jB_t (show cs_rs S o (n + 1) k from Or.inl hy)]; exact Int.le_refl _
            · rw [jB_f hy]; exact (jB_r _).1)).2 h2
          have h4 : cs_rc S o n = cs_sum (fun k => jB (cs_rs S o n k)) 10 := rfl
          have h5 : cs_rc S o (n + 1) = cs_sum (fun k => jB (cs_rs S o (n + 1) k)) 10 := rfl
          omega
      have h1 := hg 10 (by omega)
      have h2 := cs_sum_b (f := fun p => jB (cs_rs S o 10 p)) (a := 0) (b := 1) (n := 10) (fun k _ => jB_r _)
      have h3 : cs_rc S o 10 = cs_sum (fun p => jB (cs_rs S o 10 p)) 10 := rfl
      omega
  obtain ⟨n, hn, hs⟩ := key
  exact cs_rs_le hn (cs_rs_stab hs m p hp (cs_rs_le (show m ≤ n + m by omega) hr))
set_option maxHeartbeats 4000000 in
set_option maxRecDepth 100000 in
theorem c_M_reaches (l : Launch) (u : cx_U) (sz : Nat) (ad : Nat → Nat → Nat) (S : cs_S) (sc : Nat → Nat → Int) (hI : cs_I S) (f t : Nat) (hf : f < 10) (ht : t < 10) : cx_M l u mn_M_reaches bc_M_reaches 6 (some .boolean) 0 0 [.ref (ad 20 0), .int (jI ((f : Int))), .int (jI ((t : Int)))] (wM u ad S sc) sz (some (.int (jI (jB (cs_rs S (f : Int) 9 t))))) (fun w' => ∃ sc', w' = wM u ad S sc') 0 0 := by
  refine cx_M.of (by decide +kernel) (Nat.le_of_ble_eq_true rfl) ?_
  intro p e s m args below meth c ls hsz X hr hlk hin B hl
  have X : CallFix p m c bc_M_reaches 6 s args GW "CatchSharesModel" := X
  have hl : lv_has ls 6 [(0, .ref (ad 20 0)), (1, .int (jI ((f : Int)))), (2, .int (jI ((t : Int))))] := hl
  refine cx_iconst X dc_M_reaches_0 ?_
  refine lv_istore_n (lv' := [(3, .int (jI (0))), (0, .ref (ad 20 0)), (1, .int (jI ((f : Int)))), (2, .int (jI ((t : Int))))]) X.1 X.2.1 dc_M_reaches_1 rfl hl (by decide) rfl (fun ls hl => ?_)
  have lp_1 : ∀ (n_2 i : Nat) (ls : Array Slot) (H : Heap) (locs : List Loc) (sc1 : Nat → Nat → Int) (k0 : ∀ j, j < i → sc1 2 j = jB (cs_rs S (f : Int) 0 j)), (i : Int) ≤ 10 → 10 - (i : Int) < (n_2 : Int) → cx_B u (cx_A (wM u ad S sc) sz) (wM u ad S sc1) s H locs → lv_has ls 6 [(0, .ref (ad 20 0)), (1, .int (jI ((f : Int)))), (2, .int (jI ((t : Int)))), (3, .int (jI ((i : Int))))] → W p l e (cx_R 0 0 0 0) s m args below meth c H locs 0 0 (MQ below (cx_Q u (wM u ad S sc) sz (some (.int (jI (jB (cs_rs S (f : Int) 9 t))))) (fun w' => ∃ sc', w' = wM u ad S sc')) args s 0 0 (cx_A (wM u ad S sc) sz)) (F0 m 2 ls []) := by
    intro n_2
    induction n_2 with
    | zero => intro i ls H locs sc1 k0 hi_4 hn_5; exfalso; omega
    | succ n_2 ih_3 =>
      intro i ls H locs sc1 k0 hi_4 hn_5 B hl
      refine lv_iload_n X.1 X.2.1 dc_M_reaches_2 rfl (lv_at hl 3 rfl) ?_
      refine cx_bipush X dc_M_reaches_3 (by decide +kernel) ?_
      refine cx_icmp_ge (tgt := 30) X (by omega) (by omega) (by omega) (by omega) dc_M_reaches_5 (by decide) (fun c_6 => ?_) (fun c_6 => ?_)
      · refine cx_iconst X dc_M_reaches_30 ?_
        refine lv_istore_n (lv' := [(3, .int (jI (0))), (0, .ref (ad 20 0)), (1, .int (jI ((f : Int)))), (2, .int (jI ((t : Int))))]) X.1 X.2.1 dc_M_reaches_31 rfl hl (by decide) rfl (fun ls hl => ?_)
        have hz0 : ∀ j, j < 10 → (sc1 2 j = 0 ∨ sc1 2 j = 1) ∧ (sc1 2 j = 1 → cs_rs S (f : Int) 9 j) ∧ ∀ n, n ≤ 0 → cs_rs S (f : Int) n j → sc1 2 j = 1 := fun j hj => by
          rw [k0 j (by omega)]
          refine ⟨by have := jB_r (cs_rs S (f : Int) 0 j); omega, fun q => ?_, fun n hn q => ?_⟩
          · by_cases hy : cs_rs S (f : Int) 0 j
            · exact cs_rs_le (by omega) hy
            · rw [jB_f hy] at q; omega
          · rw [show n = 0 by omega] at q; exact jB_t q
        have lp_7 : ∀ (n_8 r : Nat) (ls : Array Slot) (H : Heap) (locs : List Loc) (sc4 : Nat → Nat → Int) (x4 : ∀ j, j < 10 → (sc4 2 j = 0 ∨ sc4 2 j = 1) ∧ (sc4 2 j = 1 → cs_rs S (f : Int) 9 j) ∧ ∀ n, n ≤ r → cs_rs S (f : Int) n j → sc4 2 j = 1), (r : Int) ≤ 10 → 10 - (r : Int) < (n_8 : Int) → cx_B u (cx_A (wM u ad S sc) sz) (wM u ad S sc4) s H locs → lv_has ls 6 [(0, .ref (ad 20 0)), (1, .int (jI ((f : Int)))), (2, .int (jI ((t : Int)))), (3, .int (jI ((r : Int))))] → W p l e (cx_R 0 0 0 0) s m args below meth c H locs 0 0 (MQ below (cx_Q u (wM u ad S sc) sz (some (.int (jI (jB (cs_rs S (f : Int) 9 t))))) (fun w' => ∃ sc', w' = wM u ad S sc')) args s 0 0 (cx_A (wM u ad S sc) sz)) (F0 m 32 ls []) := by
          intro n_8
          induction n_8 with
          | zero => intro r ls H locs sc4 x4 hi_10 hn_11; exfalso; omega
          | succ n_8 ih_9 =>
            intro r ls H locs sc4 x4 hi_10 hn_11 B hl
            refine lv_iload_n X.1 X.2.1 dc_M_reaches_32 rfl (lv_at hl 3 rfl) ?_
            refine cx_bipush X dc_M_reaches_33 (by decide +kernel) ?_
            refine cx_icmp_ge (tgt := 122) X (by omega) (by omega) (by omega) (by omega) dc_M_reaches_35 (by decide) (fun c_12 => ?_) (fun c_12 => ?_)
            · refine lv_aload_n X.1 X.2.1 dc_M_reaches_122 rfl (lv_at hl 0 rfl) ?_
              refine cx_get (v := .ref (ad 39 0)) X B (wM_20 u ad S sc4) rfl uw_M 23 (by decide) gf_M_73 rfl dc_M_reaches_123 ?_
              refine lv_iload_n X.1 X.2.1 dc_M_reaches_126 rfl (lv_at hl 2 rfl) ?_
              refine cx_lald X B (wM_39 u ad S sc4) (t) (by omega) (by omega) (by decide) dc_M_reaches_127 ?_
              have r_13 := x4 t ht
              refine cx_lconst (a := 1) X dc_M_reaches_128 (by decide +kernel) ?_
              refine cx_lcmp_ne (tgt := 137) X (by omega) (by omega) (by omega) (by omega) dc_M_reaches_129 dc_M_reaches_130 (by decide) (fun c_14 => ?_) (fun c_14 => ?_)
              · refine cx_iconst X dc_M_reaches_137 ?_
                have hfin := x4 t ht
                exact cx_zretM X B hsz hr hlk (Nat.le_of_ble_eq_true rfl) (Nat.le_of_ble_eq_true rfl) (by omega) (by omega) (by rw [jB_f (fun q => by have := hfin.2.2 9 (by omega) q; omega)]) ⟨_, rfl⟩ dc_M_reaches_138
              · refine cx_iconst X dc_M_reaches_133 ?_
                refine lv_goto (tgt := 138) X.1 X.2.1 dc_M_reaches_134 (by decide) ?_
                have hfin := x4 t ht
                exact cx_zretM X B hsz hr hlk (Nat.le_of_ble_eq_true rfl) (Nat.le_of_ble_eq_true rfl) (by omega) (by omega) (by rw [jB_t (hfin.2.1 (by omega))]) ⟨_, rfl⟩ dc_M_reaches_138
            · refine cx_iconst X dc_M_reaches_38 ?_
              refine lv_istore (lv' := [(4, .int (jI (0))), (0, .ref (ad 20 0)), (1, .int (jI ((f : Int)))), (2, .int (jI ((t : Int)))), (3, .int (jI ((r : Int))))]) X.1 X.2.1 dc_M_reaches_39 hl (by decide) rfl (fun ls hl => ?_)
              have lp_15 : ∀ (n_16 o : Nat) (ls : Array Slot) (H : Heap) (locs : List Loc) (sc5 : Nat → Nat → Int) (x5 : ∀ j, j < 10 → (sc5 2 j = 0 ∨ sc5 2 j = 1) ∧ (sc5 2 j = 1 → cs_rs S (f : Int) 9 j) ∧ ∀ n, n ≤ r → cs_rs S (f : Int) n j → sc5 2 j = 1) (y5 : ∀ y, y < o → ∀ j, j < 10 → cs_rs S (f : Int) r y → 0 < S 11 y j → sc5 2 j = 1), (o : Int) ≤ 10 → 10 - (o : Int) < (n_16 : Int) → cx_B u (cx_A (wM u ad S sc) sz) (wM u ad S sc5) s H locs → lv_has ls 6 [(0, .ref (ad 20 0)), (1, .int (jI ((f : Int)))), (2, .int (jI ((t : Int)))), (3, .int (jI ((r : Int)))), (4, .int (jI ((o : Int))))] → W p l e (cx_R 0 0 0 0) s m args below meth c H locs 0 0 (MQ below (cx_Q u (wM u ad S sc) sz (some (.int (jI (jB (cs_rs S (f : Int) 9 t))))) (fun w' => ∃ sc', w' = wM u ad S sc')) args s 0 0 (cx_A (wM u ad S sc) sz)) (F0 m 41 ls []) := by
                intro n_16
                induction n_16 with
                | zero => intro o ls H locs sc5 x5 y5 hi_18 hn_19; exfalso; omega
                | succ n_16 ih_17 =>
                  intro o ls H locs sc5 x5 y5 hi_18 hn_19 B hl
                  refine lv_iload X.1 X.2.1 dc_M_reaches_41 (lv_at hl 4 rfl) ?_
                  refine cx_bipush X dc_M_reaches_43 (by decide +kernel) ?_
                  refine cx_icmp_ge (tgt := 116) X (by omega) (by omega) (by omega) (by omega) dc_M_reaches_45 (by decide) (fun c_20 => ?_) (fun c_20 => ?_)
                  · refine lv_iinc (v := jI ((r : Int) + 1)) (lv' := [(3, .int (jI ((r : Int) + 1))), (0, .ref (ad 20 0)), (1, .int (jI ((f : Int)))), (2, .int (jI ((t : Int)))), (4, .int (jI ((o : Int))))]) X.1 X.2.1 dc_M_reaches_116 hl (k := 3) rfl (jI_add _ _) (by decide) rfl (fun ls hl => ?_)
                    refine lv_goto (tgt := 32) X.1 X.2.1 dc_M_reaches_119 (by decide) ?_
                    have hy : ∀ j, j < 10 → (sc5 2 j = 0 ∨ sc5 2 j = 1) ∧ (sc5 2 j = 1 → cs_rs S (f : Int) 9 j) ∧ ∀ n, n ≤ r + 1 → cs_rs S (f : Int) n j → sc5 2 j = 1 := fun j hj => ⟨(x5 j hj).1, (x5 j hj).2.1, fun n hn q => by
                      rcases (show n ≤ r ∨ n = r + 1 by omega) with h | h
                      · exact (x5 j hj).2.2 n h q
                      · rw [h] at q
                        rcases q with q | ⟨y, hy, q1, q2⟩
                        · exact (x5 j hj).2.2 r (Nat.le_refl r) q
                        · exact y5 y (by omega) j hj q1 q2⟩
                    exact ih_9 (r + 1) ls _ _ sc5 hy (by omega) (by omega) B (by  exact lv_sub hl [1, 2, 3, 0] rfl)
                  · refine cx_iconst X dc_M_reaches_48 ?_
                    refine lv_istore (lv' := [(5, .int (jI (0))), (0, .ref (ad 20 0)), (1, .int (jI ((f : Int)))), (2, .int (jI ((t : Int)))), (3, .int (jI ((r : Int)))), (4, .int (jI ((o : Int))))]) X.1 X.2.1 dc_M_reaches_49 hl (by decide) rfl (fun ls hl => ?_)
                    have lp_21 : ∀ (n_22 p_ : Nat) (ls : Array Slot) (H : Heap) (locs : List Loc) (sc6 : Nat → Nat → Int) (x6 : ∀ j, j < 10 → (sc6 2 j = 0 ∨ sc6 2 j = 1) ∧ (sc6 2 j = 1 → cs_rs S (f : Int) 9 j) ∧ ∀ n, n ≤ r → cs_rs S (f : Int) n j → sc6 2 j = 1) (y6 : ∀ y, y < o → ∀ j, j < 10 → cs_rs S (f : Int) r y → 0 < S 11 y j → sc6 2 j = 1) (z6 : ∀ j, j < p_ → cs_rs S (f : Int) r o → 0 < S 11 o j → sc6 2 j = 1), (p_ : Int) ≤ 10 → 10 - (p_ : Int) < (n_22 : Int) → cx_B u (cx_A (wM u ad S sc) sz) (wM u ad S sc6) s H locs → lv_has ls 6 [(0, .ref (ad 20 0)), (1, .int (jI ((f : Int)))), (2, .int (jI ((t : Int)))), (3, .int (jI ((r : Int)))), (4, .int (jI ((o : Int)))), (5, .int (jI ((p_ : Int))))] → W p l e (cx_R 0 0 0 0) s m args below meth c H locs 0 0 (MQ below (cx_Q u (wM u ad S sc) sz (some (.int (jI (jB (cs_rs S (f : Int) 9 t))))) (fun w' => ∃ sc', w' = wM u ad S sc')) args s 0 0 (cx_A (wM u ad S sc) sz)) (F0 m 51 ls []) := by
                      intro n_22
                      induction n_22 with
                      | zero => intro p_ ls H locs sc6 x6 y6 z6 hi_24 hn_25; exfalso; omega
                      | succ n_22 ih_23 =>
                        intro p_ ls H locs sc6 x6 y6 z6 hi_24 hn_25 B hl
                        have hxo := x6 o (by omega)
                        have hxp := x6 p_
                        refine lv_iload X.1 X.2.1 dc_M_reaches_51 (lv_at hl 5 rfl) ?_
                        refine cx_bipush X dc_M_reaches_53 (by decide +kernel) ?_
                        refine cx_icmp_ge (tgt := 110) X (by omega) (by omega) (by omega) (by omega) dc_M_reaches_55 (by decide) (fun c_26 => ?_) (fun c_26 => ?_)
                        · refine lv_iinc (v := jI ((o : Int) + 1)) (lv' := [(4, .int (jI ((o : Int) + 1))), (0, .ref (ad 20 0)), (1, .int (jI ((f : Int)))), (2, .int (jI ((t : Int)))), (3, .int (jI ((r : Int)))), (5, .int (jI ((p_ : Int))))]) X.1 X.2.1 dc_M_reaches_110 hl (k := 4) rfl (jI_add _ _) (by decide) rfl (fun ls hl => ?_)
                          refine lv_goto (tgt := 41) X.1 X.2.1 dc_M_reaches_113 (by decide) ?_
                          exact ih_17 (o + 1) ls _ _ sc6 x6 (fun y hy j hj q1 q2 => by rcases (show y < o ∨ y = o by omega) with h | rfl; exact y6 y h j hj q1 q2; exact z6 j (by omega) q1 q2) (by omega) (by omega) B (by  exact lv_sub hl [1, 2, 3, 4, 0] rfl)
                        · refine lv_aload_n X.1 X.2.1 dc_M_reaches_58 rfl (lv_at hl 0 rfl) ?_
                          refine cx_get (v := .ref (ad 39 0)) X B (wM_20 u ad S sc6) rfl uw_M 23 (by decide) gf_M_73 rfl dc_M_reaches_59 ?_
                          refine lv_iload X.1 X.2.1 dc_M_reaches_62 (lv_at hl 5 rfl) ?_
                          refine lv_aload_n X.1 X.2.1 dc_M_reaches_64 rfl (lv_at hl 0 rfl) ?_
                          refine cx_get (v := .ref (ad 39 0)) X B (wM_20 u ad S sc6) rfl uw_M 23 (by decide) gf_M_73 rfl dc_M_reaches_65 ?_
                          refine lv_iload X.1 X.2.1 dc_M_reaches_68 (lv_at hl 4 rfl) ?_
                          refine cx_lald X B (wM_39 u ad S sc6) (o) (by omega) (by omega) (by decide) dc_M_reaches_70 ?_
                          have r_27 := x6 o (by omega)
                          refine cx_lconst (a := 1) X dc_M_reaches_71 (by decide +kernel) ?_
                          refine cx_lcmp_ne (tgt := 96) X (by omega) (by omega) (by omega) (by omega) dc_M_reaches_72 dc_M_reaches_73 (by decide) (fun c_28 => ?_) (fun c_28 => ?_)
                          · refine lv_aload_n X.1 X.2.1 dc_M_reaches_96 rfl (lv_at hl 0 rfl) ?_
                            refine cx_get (v := .ref (ad 39 0)) X B (wM_20 u ad S sc6) rfl uw_M 23 (by decide) gf_M_73 rfl dc_M_reaches_97 ?_
                            refine lv_iload X.1 X.2.1 dc_M_reaches_100 (lv_at hl 5 rfl) ?_
                            refine cx_lald X B (wM_39 u ad S sc6) (p_) (by omega) (by omega) (by decide) dc_M_reaches_102 ?_
                            have r_29 := hxp (by omega)
                            refine cx_last X B (wM_39 u ad S sc6) (p_) (by omega) (by omega) (by decide) dc_M_reaches_103 (fun H locs B => ?_)
                            have B : cx_B u (cx_A (wM u ad S sc) sz) (cx_up (wM u ad S sc6) 39 0 (ad 39 0, .inl (u.2 1, 10, .inr (.inl (fun z_ => jL (va_up (fun z_ => sc6 2 z_) p_ (sc6 2 p_) z_)))))) s H locs := B
                            obtain ⟨sc7, hsc7⟩ : ∃ z, z = cs_su sc6 2 p_ (sc6 2 p_) := ⟨_, rfl⟩
                            have B : cx_B u (cx_A (wM u ad S sc) sz) (wM u ad S sc7) s H locs := by rw [hsc7, ← wM_s2]; exact B
                            have e7 : sc7 2 p_ = sc6 2 p_ := by rw [hsc7]; simp [cs_su]
                            have ne7 : ∀ j, ¬ j = p_ → sc7 2 j = sc6 2 j := fun j hj => by rw [hsc7]; simp [cs_su, hj]
                            refine lv_iinc (v := jI ((p_ : Int) + 1)) (lv' := [(5, .int (jI ((p_ : Int) + 1))), (0, .ref (ad 20 0)), (1, .int (jI ((f : Int)))), (2, .int (jI ((t : Int)))), (3, .int (jI ((r : Int)))), (4, .int (jI ((o : Int))))]) X.1 X.2.1 dc_M_reaches_104 hl (k := 5) rfl (jI_add _ _) (by decide) rfl (fun ls hl => ?_)
                            refine lv_goto (tgt := 51) X.1 X.2.1 dc_M_reaches_107 (by decide) ?_
                            have hx : ∀ j, j < 10 → (sc7 2 j = 0 ∨ sc7 2 j = 1) ∧ (sc7 2 j = 1 → cs_rs S (f : Int) 9 j) ∧ ∀ n, n ≤ r → cs_rs S (f : Int) n j → sc7 2 j = 1 := fun j hj => by
                              by_cases hjp : j = p_
                              · rw [hjp, e7]
                                exact hxp (by omega)
                              · rw [ne7 j hjp]; exact x6 j hj
                            have hm : ∀ j, j < 10 → sc6 2 j = 1 → sc7 2 j = 1 := fun j hj q => by
                              by_cases hjp : j = p_
                              · rw [hjp, e7]; rw [hjp] at q; exact q
                              · rw [ne7 j hjp]; exact q
                            have hyy : ∀ y, y < o → ∀ j, j < 10 → cs_rs S (f : Int) r y → 0 < S 11 y j → sc7 2 j = 1 := fun y hy j hj q1 q2 => hm j hj (y6 y hy j hj q1 q2)
                            have hzz : ∀ j, j < p_ + 1 → cs_rs S (f : Int) r o → 0 < S 11 o j → sc7 2 j = 1 := fun j hj q1 q2 => by
                              by_cases hjp : j = p_
                              · rw [hjp, e7]; exfalso; have := hxo.2.2 r (Nat.le_refl r) q1; rw [hjp] at q2; omega
                              · exact hm j (by omega) (z6 j (by omega) q1 q2)
                            exact ih_23 (p_ + 1) ls _ _ sc7 hx hyy hzz (by omega) (by omega) B (by  exact lv_sub hl [1, 2, 3, 4, 5, 0] rfl)
                          · refine lv_aload_n X.1 X.2.1 dc_M_reaches_76 rfl (lv_at hl 0 rfl) ?_
                            refine cx_get (v := .ref (ad 37 0)) X B (wM_20 u ad S sc6) rfl uw_M 21 (by decide) gf_M_67 rfl dc_M_reaches_77 ?_
                            refine cx_bipush X dc_M_reaches_80 (by decide +kernel) ?_
                            refine lv_iload X.1 X.2.1 dc_M_reaches_82 (lv_at hl 4 rfl) ?_
                            refine cx_imul X dc_M_reaches_84 ?_
                            refine lv_iload X.1 X.2.1 dc_M_reaches_85 (lv_at hl 5 rfl) ?_
                            refine cx_iadd X dc_M_reaches_87 ?_
                            refine cx_iald X B (wM_37 u ad S sc6) ((10 * o) + p_) (by omega) (by omega) (by decide) dc_M_reaches_88 ?_
                            rw [show ((10 * o) + p_) / 10 = o by omega, show ((10 * o) + p_) % 10 = p_ by omega]
                            have r_30 := hI.2.2.2.1 o p_
                            refine cx_if_le (tgt := 96) X (by omega) (by omega) dc_M_reaches_89 (by decide) (fun c_31 => ?_) (fun c_31 => ?_)
                            · refine lv_aload_n X.1 X.2.1 dc_M_reaches_96 rfl (lv_at hl 0 rfl) ?_
                              refine cx_get (v := .ref (ad 39 0)) X B (wM_20 u ad S sc6) rfl uw_M 23 (by decide) gf_M_73 rfl dc_M_reaches_97 ?_
                              refine lv_iload X.1 X.2.1 dc_M_reaches_100 (lv_at hl 5 rfl) ?_
                              refine cx_lald X B (wM_39 u ad S sc6) (p_) (by omega) (by omega) (by decide) dc_M_reaches_102 ?_
                              have r_32 := hxp (by omega)
                              refine cx_last X B (wM_39 u ad S sc6) (p_) (by omega) (by omega) (by decide) dc_M_reaches_103 (fun H locs B => ?_)
                              have B : cx_B u (cx_A (wM u ad S sc) sz) (cx_up (wM u ad S sc6) 39 0 (ad 39 0, .inl (u.2 1, 10, .inr (.inl (fun z_ => jL (va_up (fun z_ => sc6 2 z_) p_ (sc6 2 p_) z_)))))) s H locs := B
                              obtain ⟨sc7, hsc7⟩ : ∃ z, z = cs_su sc6 2 p_ (sc6 2 p_) := ⟨_, rfl⟩
                              have B : cx_B u (cx_A (wM u ad S sc) sz) (wM u ad S sc7) s H locs := by rw [hsc7, ← wM_s2]; exact B
                              have e7 : sc7 2 p_ = sc6 2 p_ := by rw [hsc7]; simp [cs_su]
                              have ne7 : ∀ j, ¬ j = p_ → sc7 2 j = sc6 2 j := fun j hj => by rw [hsc7]; simp [cs_su, hj]
                              refine lv_iinc (v := jI ((p_ : Int) + 1)) (lv' := [(5, .int (jI ((p_ : Int) + 1))), (0, .ref (ad 20 0)), (1, .int (jI ((f : Int)))), (2, .int (jI ((t : Int)))), (3, .int (jI ((r : Int)))), (4, .int (jI ((o : Int))))]) X.1 X.2.1 dc_M_reaches_104 hl (k := 5) rfl (jI_add _ _) (by decide) rfl (fun ls hl => ?_)
                              refine lv_goto (tgt := 51) X.1 X.2.1 dc_M_reaches_107 (by decide) ?_
                              have hx : ∀ j, j < 10 → (sc7 2 j = 0 ∨ sc7 2 j = 1) ∧ (sc7 2 j = 1 → cs_rs S (f : Int) 9 j) ∧ ∀ n, n ≤ r → cs_rs S (f : Int) n j → sc7 2 j = 1 := fun j hj => by
                                by_cases hjp : j = p_
                                · rw [hjp, e7]
                                  exact hxp (by omega)
                                · rw [ne7 j hjp]; exact x6 j hj
                              have hm : ∀ j, j < 10 → sc6 2 j = 1 → sc7 2 j = 1 := fun j hj q => by
                                by_cases hjp : j = p_
                                · rw [hjp, e7]; rw [hjp] at q; exact q
                                · rw [ne7 j hjp]; exact q
                              have hyy : ∀ y, y < o → ∀ j, j < 10 → cs_rs S (f : Int) r y → 0 < S 11 y j → sc7 2 j = 1 := fun y hy j hj q1 q2 => hm j hj (y6 y hy j hj q1 q2)
                              have hzz : ∀ j, j < p_ + 1 → cs_rs S (f : Int) r o → 0 < S 11 o j → sc7 2 j = 1 := fun j hj q1 q2 => by
                                by_cases hjp : j = p_
                                · rw [hjp, e7]; exfalso; have := hxo.2.2 r (Nat.le_refl r) q1; rw [hjp] at q2; omega
                                · exact hm j (by omega) (z6 j (by omega) q1 q2)
                              exact ih_23 (p_ + 1) ls _ _ sc7 hx hyy hzz (by omega) (by omega) B (by  exact lv_sub hl [1, 2, 3, 4, 5, 0] rfl)
                            · refine cx_lconst (a := 1) X dc_M_reaches_92 (by decide +kernel) ?_
                              refine lv_goto (tgt := 103) X.1 X.2.1 dc_M_reaches_93 (by decide) ?_
                              refine cx_last X B (wM_39 u ad S sc6) (p_) (by omega) (by omega) (by decide) dc_M_reaches_103 (fun H locs B => ?_)
                              have B : cx_B u (cx_A (wM u ad S sc) sz) (cx_up (wM u ad S sc6) 39 0 (ad 39 0, .inl (u.2 1, 10, .inr (.inl (fun z_ => jL (va_up (fun z_ => sc6 2 z_) p_ 1 z_)))))) s H locs := B
                              obtain ⟨sc7, hsc7⟩ : ∃ z, z = cs_su sc6 2 p_ 1 := ⟨_, rfl⟩
                              have B : cx_B u (cx_A (wM u ad S sc) sz) (wM u ad S sc7) s H locs := by rw [hsc7, ← wM_s2]; exact B
                              have e7 : sc7 2 p_ = 1 := by rw [hsc7]; simp [cs_su]
                              have ne7 : ∀ j, ¬ j = p_ → sc7 2 j = sc6 2 j := fun j hj => by rw [hsc7]; simp [cs_su, hj]
                              refine lv_iinc (v := jI ((p_ : Int) + 1)) (lv' := [(5, .int (jI ((p_ : Int) + 1))), (0, .ref (ad 20 0)), (1, .int (jI ((f : Int)))), (2, .int (jI ((t : Int)))), (3, .int (jI ((r : Int)))), (4, .int (jI ((o : Int))))]) X.1 X.2.1 dc_M_reaches_104 hl (k := 5) rfl (jI_add _ _) (by decide) rfl (fun ls hl => ?_)
                              refine lv_goto (tgt := 51) X.1 X.2.1 dc_M_reaches_107 (by decide) ?_
                              have hx : ∀ j, j < 10 → (sc7 2 j = 0 ∨ sc7 2 j = 1) ∧ (sc7 2 j = 1 → cs_rs S (f : Int) 9 j) ∧ ∀ n, n ≤ r → cs_rs S (f : Int) n j → sc7 2 j = 1 := fun j hj => by
                                by_cases hjp : j = p_
                                · rw [hjp, e7]
                                  exact ⟨Or.inr rfl, fun _ => cs_rs_9 (m := 10) (by omega) (by omega) (by omega) (Or.inr ⟨o, by omega, hxo.2.1 (by omega), by omega⟩), fun _ _ _ => rfl⟩
                                · rw [ne7 j hjp]; exact x6 j hj
                              have hm : ∀ j, j < 10 → sc6 2 j = 1 → sc7 2 j = 1 := fun j hj q => by
                                by_cases hjp : j = p_
                                · rw [hjp, e7]; skip
                                · rw [ne7 j hjp]; exact q
                              have hyy : ∀ y, y < o → ∀ j, j < 10 → cs_rs S (f : Int) r y → 0 < S 11 y j → sc7 2 j = 1 := fun y hy j hj q1 q2 => hm j hj (y6 y hy j hj q1 q2)
                              have hzz : ∀ j, j < p_ + 1 → cs_rs S (f : Int) r o → 0 < S 11 o j → sc7 2 j = 1 := fun j hj q1 q2 => by
                                by_cases hjp : j = p_
                                · rw [hjp, e7]; skip
                                · exact hm j (by omega) (z6 j (by omega) q1 q2)
                              exact ih_23 (p_ + 1) ls _ _ sc7 hx hyy hzz (by omega) (by omega) B (by  exact lv_sub hl [1, 2, 3, 4, 5, 0] rfl)
                    exact lp_21 ((10 : Int).toNat + 1) 0 ls _ _ sc5 x5 y5 (fun j hj => absurd hj (by omega)) (by omega) (by omega) B (by  exact lv_sub hl [1, 2, 3, 4, 5, 0] rfl)
              exact lp_15 ((10 : Int).toNat + 1) 0 ls _ _ sc4 x4 (fun y hy => absurd hy (by omega)) (by omega) (by omega) B (by  exact lv_sub hl [1, 2, 3, 4, 0] rfl)
        exact lp_7 ((10 : Int).toNat + 1) 0 ls _ _ sc1 hz0 (by omega) (by omega) B (by  exact lv_sub hl [1, 2, 3, 0] rfl)
      · refine lv_aload_n X.1 X.2.1 dc_M_reaches_8 rfl (lv_at hl 0 rfl) ?_
        refine cx_get (v := .ref (ad 39 0)) X B (wM_20 u ad S sc1) rfl uw_M 23 (by decide) gf_M_73 rfl dc_M_reaches_9 ?_
        refine lv_iload_n X.1 X.2.1 dc_M_reaches_12 rfl (lv_at hl 3 rfl) ?_
        refine lv_iload_n X.1 X.2.1 dc_M_reaches_13 rfl (lv_at hl 3 rfl) ?_
        refine lv_iload_n X.1 X.2.1 dc_M_reaches_14 rfl (lv_at hl 1 rfl) ?_
        refine cx_icmp_ne (tgt := 22) X (by omega) (by omega) (by omega) (by omega) dc_M_reaches_15 (by decide) (fun c_33 => ?_) (fun c_33 => ?_)
        · refine cx_lconst (a := 0) X dc_M_reaches_22 (by decide +kernel) ?_
          refine cx_last X B (wM_39 u ad S sc1) (i) (by omega) (by omega) (by decide) dc_M_reaches_23 (fun H locs B => ?_)
          have B : cx_B u (cx_A (wM u ad S sc) sz) (cx_up (wM u ad S sc1) 39 0 (ad 39 0, .inl (u.2 1, 10, .inr (.inl (fun z_ => jL (va_up (fun z_ => sc1 2 z_) i 0 z_)))))) s H locs := B
          obtain ⟨sc2, hsc2⟩ : ∃ z, z = cs_su sc1 2 i 0 := ⟨_, rfl⟩
          have B : cx_B u (cx_A (wM u ad S sc) sz) (wM u ad S sc2) s H locs := by rw [hsc2, ← wM_s2]; exact B
          refine lv_iinc (v := jI ((i : Int) + 1)) (lv' := [(3, .int (jI ((i : Int) + 1))), (0, .ref (ad 20 0)), (1, .int (jI ((f : Int)))), (2, .int (jI ((t : Int))))]) X.1 X.2.1 dc_M_reaches_24 hl (k := 3) rfl (jI_add _ _) (by decide) rfl (fun ls hl => ?_)
          refine lv_goto (tgt := 2) X.1 X.2.1 dc_M_reaches_27 (by decide) ?_
          exact ih_3 (i + 1) ls _ _ sc2 (fun j hj => by rw [hsc2]; by_cases hji : j = i <;> simp [cs_su, hji] <;> first | exact k0 j (by omega) | exact (jB_f (show ¬ (i : Int) = (f : Int) by omega)).symm) (by omega) (by omega) B (by  exact lv_sub hl [1, 2, 3, 0] rfl)
        · refine cx_lconst (a := 1) X dc_M_reaches_18 (by decide +kernel) ?_
          refine lv_goto (tgt := 23) X.1 X.2.1 dc_M_reaches_19 (by decide) ?_
          refine cx_last X B (wM_39 u ad S sc1) (i) (by omega) (by omega) (by decide) dc_M_reaches_23 (fun H locs B => ?_)
          have B : cx_B u (cx_A (wM u ad S sc) sz) (cx_up (wM u ad S sc1) 39 0 (ad 39 0, .inl (u.2 1, 10, .inr (.inl (fun z_ => jL (va_up (fun z_ => sc1 2 z_) i 1 z_)))))) s H locs := B
          obtain ⟨sc2, hsc2⟩ : ∃ z, z = cs_su sc1 2 i 1 := ⟨_, rfl⟩
          have B : cx_B u (cx_A (wM u ad S sc) sz) (wM u ad S sc2) s H locs := by rw [hsc2, ← wM_s2]; exact B
          refine lv_iinc (v := jI ((i : Int) + 1)) (lv' := [(3, .int (jI ((i : Int) + 1))), (0, .ref (ad 20 0)), (1, .int (jI ((f : Int)))), (2, .int (jI ((t : Int))))]) X.1 X.2.1 dc_M_reaches_24 hl (k := 3) rfl (jI_add _ _) (by decide) rfl (fun ls hl => ?_)
          refine lv_goto (tgt := 2) X.1 X.2.1 dc_M_reaches_27 (by decide) ?_
          exact ih_3 (i + 1) ls _ _ sc2 (fun j hj => by rw [hsc2]; by_cases hji : j = i <;> simp [cs_su, hji] <;> first | exact k0 j (by omega) | exact (jB_t (show (i : Int) = (f : Int) by omega)).symm) (by omega) (by omega) B (by  exact lv_sub hl [1, 2, 3, 0] rfl)
  exact lp_1 ((10 : Int).toNat + 1) 0 ls _ _ sc (fun j hj => absurd hj (by omega)) (by omega) (by omega) B (by  exact lv_sub hl [1, 2, 3, 0] rfl)
set_option maxHeartbeats 4000000 in
set_option maxRecDepth 100000 in
theorem c_M_owns (l : Launch) (u : cx_U) (sz : Nat) (ad : Nat → Nat → Nat) (S : cs_S) (sc : Nat → Nat → Int) (hI : cs_I S) (hP : cs_P S) (hH : cs_H S) (a b x : Int) (a1 : -2147483648 ≤ a) (a2 : a ≤ 2147483647) (b1 : -2147483648 ≤ b) (b2 : b ≤ 2147483647) (x1 : -2147483648 ≤ x) (x2 : x ≤ 2147483647) : cx_M l u mn_M_owns bc_M_owns 6 (some .boolean) 2 45 [.ref (ad 20 0), .int (jI (a)), .int (jI (b)), .int (jI (x))] (wM u ad S sc) sz (some (.int (jI (jB (cs_ownP S a b x))))) (fun w' => ∃ sc', w' = wM u ad (op_owns S a b x) sc') 0 0 := by
  refine cx_M.of (by decide +kernel) (Nat.le_of_ble_eq_true rfl) ?_
  intro p e s m args below meth c ls hsz X hr hlk hin B hl
  have X : CallFix p m c bc_M_owns 6 s args GW "CatchSharesModel" := X
  have hl : lv_has ls 6 [(0, .ref (ad 20 0)), (1, .int (jI (a))), (2, .int (jI (b))), (3, .int (jI (x)))] := hl
  have hI1 := hI.1
  refine lv_iload_n X.1 X.2.1 dc_M_owns_0 rfl (lv_at hl 1 rfl) ?_
  refine cx_cSN (r := .int (jI (jB (0 ≤ a ∧ a < 10)))) (As := [.int (jI (a))]) (rest := []) X B kc_M_isOwner gm_M_93 (c_M_isOwner l u _ a (by omega) (by omega)) (fun _ _ _ h => h) ⟨(Nat.le_of_ble_eq_true rfl), (Nat.le_of_ble_eq_true rfl)⟩ ⟨(Nat.le_of_ble_eq_true rfl), (Nat.le_of_ble_eq_true rfl)⟩ rfl hl.1 (Nat.le_of_ble_eq_true rfl) dc_M_owns_1 rfl ?_
  refine cx_ifeqB (tgt := 26) X dc_M_owns_4 (by decide) (fun c_1 => ?_) (fun c_1 => ?_)
  · refine cx_iconst X dc_M_owns_26 ?_
    have hQ : ¬ cs_ownP S a b x := fun q => by have q1 := q.1; omega
    exact cx_zretM X B hsz hr hlk (Nat.le_of_ble_eq_true rfl) (Nat.le_of_ble_eq_true rfl) (by omega) (by omega) (by rw [jB_f hQ]) ⟨_, by rw [op_owns_f hQ]⟩ dc_M_owns_27
  · refine lv_iload_n X.1 X.2.1 dc_M_owns_7 rfl (lv_at hl 2 rfl) ?_
    refine cx_cSN (r := .int (jI (jB (0 ≤ b ∧ b < 10)))) (As := [.int (jI (b))]) (rest := []) X B kc_M_isOwner gm_M_93 (c_M_isOwner l u _ b (by omega) (by omega)) (fun _ _ _ h => h) ⟨(Nat.le_of_ble_eq_true rfl), (Nat.le_of_ble_eq_true rfl)⟩ ⟨(Nat.le_of_ble_eq_true rfl), (Nat.le_of_ble_eq_true rfl)⟩ rfl hl.1 (Nat.le_of_ble_eq_true rfl) dc_M_owns_8 rfl ?_
    refine cx_ifeqB (tgt := 26) X dc_M_owns_11 (by decide) (fun c_2 => ?_) (fun c_2 => ?_)
    · refine cx_iconst X dc_M_owns_26 ?_
      have hQ : ¬ cs_ownP S a b x := fun q => by have q1 := q.1; omega
      exact cx_zretM X B hsz hr hlk (Nat.le_of_ble_eq_true rfl) (Nat.le_of_ble_eq_true rfl) (by omega) (by omega) (by rw [jB_f hQ]) ⟨_, by rw [op_owns_f hQ]⟩ dc_M_owns_27
    · refine lv_iload_n X.1 X.2.1 dc_M_owns_14 rfl (lv_at hl 3 rfl) ?_
      refine cx_i2l X (by omega) (by omega) dc_M_owns_15 ?_
      refine cx_lconst (a := 0) X dc_M_owns_16 (by decide +kernel) ?_
      refine cx_ldc2 (a := 100) X gk_M_142 (by decide +kernel) dc_M_owns_17 ?_
      refine cx_cSN (r := .int (jI (jB (0 ≤ x ∧ x ≤ 100)))) (As := [.long (jL (x)), .long (jL (0)), .long (jL (100))]) (rest := []) X B kc_M_in gm_M_82 (c_M_in l u _ x 0 100 (by omega) (by omega) (by omega) (by omega) (by omega) (by omega)) (fun _ _ _ h => h) ⟨(Nat.le_of_ble_eq_true rfl), (Nat.le_of_ble_eq_true rfl)⟩ ⟨(Nat.le_of_ble_eq_true rfl), (Nat.le_of_ble_eq_true rfl)⟩ rfl hl.1 (Nat.le_of_ble_eq_true rfl) dc_M_owns_20 rfl ?_
      refine cx_ifneB (tgt := 28) X dc_M_owns_23 (by decide) (fun c_3 => ?_) (fun c_3 => ?_)
      · obtain ⟨i, rfl⟩ : ∃ i : Nat, a = (i : Int) := ⟨a.toNat, by omega⟩
        obtain ⟨j, rfl⟩ : ∃ j : Nat, b = (j : Int) := ⟨b.toNat, by omega⟩
        have hH1 := hH (j : Int) i
        have hrs : cs_rs S (j : Int) 9 i ↔ 0 < cs_hold S (j : Int) 9 i := ⟨cs_rs_hold hI hP (by omega), cs_hold_rs hI hP⟩
        refine lv_iload_n X.1 X.2.1 dc_M_owns_28 rfl (lv_at hl 3 rfl) ?_
        refine cx_if_le (tgt := 48) X (by omega) (by omega) dc_M_owns_29 (by decide) (fun c_4 => ?_) (fun c_4 => ?_)
        · refine lv_iload_n X.1 X.2.1 dc_M_owns_48 rfl (lv_at hl 3 rfl) ?_
          refine lv_istore (lv' := [(4, .int (jI (x))), (0, .ref (ad 20 0)), (1, .int (jI ((i : Int)))), (2, .int (jI ((j : Int)))), (3, .int (jI (x)))]) X.1 X.2.1 dc_M_owns_49 hl (by decide) rfl (fun ls hl => ?_)
          refine cx_iconst X dc_M_owns_51 ?_
          refine lv_istore (lv' := [(5, .int (jI (0))), (4, .int (jI (x))), (0, .ref (ad 20 0)), (1, .int (jI ((i : Int)))), (2, .int (jI ((j : Int)))), (3, .int (jI (x)))]) X.1 X.2.1 dc_M_owns_52 hl (by decide) rfl (fun ls hl => ?_)
          have lp_5 : ∀ (n_6 q : Nat) (ls : Array Slot) (H : Heap) (locs : List Loc) , (q : Int) ≤ 10 → 10 - (q : Int) < (n_6 : Int) → cx_B u (cx_A (wM u ad S sc) sz) (wM u ad S sc) s H locs → lv_has ls 6 [(0, .ref (ad 20 0)), (1, .int (jI ((i : Int)))), (2, .int (jI ((j : Int)))), (3, .int (jI (x))), (4, .int (jI (x + cs_oth S (i : Int) j q))), (5, .int (jI ((q : Int))))] → W p l e (cx_R 2 45 0 0) s m args below meth c H locs 0 0 (MQ below (cx_Q u (wM u ad S sc) sz (some (.int (jI (jB (cs_ownP S (i : Int) (j : Int) x))))) (fun w' => ∃ sc', w' = wM u ad (op_owns S (i : Int) (j : Int) x) sc')) args s 0 0 (cx_A (wM u ad S sc) sz)) (F0 m 54 ls []) := by
            intro n_6
            induction n_6 with
            | zero => intro q ls H locs  hi_8 hn_9; exfalso; omega
            | succ n_6 ih_7 =>
              intro q ls H locs  hi_8 hn_9 B hl
              have hob := cs_oth_b hI (i : Int) j q
              refine lv_iload X.1 X.2.1 dc_M_owns_54 (lv_at hl 5 rfl) ?_
              refine cx_bipush X dc_M_owns_56 (by decide +kernel) ?_
              refine cx_icmp_ge (tgt := 95) X (by omega) (by omega) (by omega) (by omega) dc_M_owns_58 (by decide) (fun c_10 => ?_) (fun c_10 => ?_)
              · refine lv_iload X.1 X.2.1 dc_M_owns_95 (lv_at hl 4 rfl) ?_
                refine cx_bipush X dc_M_owns_97 (by decide +kernel) ?_
                refine cx_icmp_le (tgt := 104) X (by omega) (by omega) (by omega) (by omega) dc_M_owns_99 (by decide) (fun c_11 => ?_) (fun c_11 => ?_)
                · refine lv_aload_n X.1 X.2.1 dc_M_owns_104 rfl (lv_at hl 0 rfl) ?_
                  refine cx_get (v := .ref (ad 37 0)) X B (wM_20 u ad S sc) rfl uw_M 21 (by decide) gf_M_67 rfl dc_M_owns_105 ?_
                  refine cx_bipush X dc_M_owns_108 (by decide +kernel) ?_
                  refine lv_iload_n X.1 X.2.1 dc_M_owns_110 rfl (lv_at hl 1 rfl) ?_
                  refine cx_imul X dc_M_owns_111 ?_
                  refine lv_iload_n X.1 X.2.1 dc_M_owns_112 rfl (lv_at hl 2 rfl) ?_
                  refine cx_iadd X dc_M_owns_113 ?_
                  refine lv_iload_n X.1 X.2.1 dc_M_owns_114 rfl (lv_at hl 3 rfl) ?_
                  refine cx_iast X B (wM_37 u ad S sc) ((10 * i) + j) (by omega) (by omega) (by decide) dc_M_owns_115 (fun H locs B => ?_)
                  have B : cx_B u (cx_A (wM u ad S sc) sz) (cx_up (wM u ad S sc) 37 0 (ad 37 0, .inl (u.2 0, 100, .inl (fun z_ => jI (va_up (fun z_ => S 11 (z_ / 10) (z_ % 10)) ((10 * i) + j) x z_))))) s H locs := B
                  refine cx_iconst X dc_M_owns_116 ?_
                  have hq10 : q = 10 := by omega
                  subst hq10
                  have hQ : cs_ownP S (i : Int) (j : Int) x := ⟨by omega, by simp only [cs_nn]; omega, by simp only [cs_nn]; omega⟩
                  have hG : cx_up (wM u ad S sc) 37 0 (ad 37 0, .inl (u.2 0, 100, .inl (fun z_ => jI (va_up (fun z_ => S 11 (z_ / 10) (z_ % 10)) ((10 * i) + j) x z_)))) = wM u ad (op_owns S (i : Int) (j : Int) x) sc := by rw [op_owns_t hQ]; exact wM_f11 u ad S sc (by omega) x
                  exact cx_zretM X B hsz hr hlk (Nat.le_of_ble_eq_true rfl) (Nat.le_of_ble_eq_true rfl) (by omega) (by omega) (by rw [jB_t hQ]) ⟨_, hG⟩ dc_M_owns_117
                · refine cx_iconst X dc_M_owns_102 ?_
                  have hq10 : q = 10 := by omega
                  subst hq10
                  have hQ : ¬ cs_ownP S (i : Int) (j : Int) x := fun q => by have q1 := q.2.2; simp only [cs_nn] at q1; omega
                  exact cx_zretM X B hsz hr hlk (Nat.le_of_ble_eq_true rfl) (Nat.le_of_ble_eq_true rfl) (by omega) (by omega) (by rw [jB_f hQ]) ⟨_, by rw [op_owns_f hQ]⟩ dc_M_owns_103
              · refine lv_iload X.1 X.2.1 dc_M_owns_61 (lv_at hl 5 rfl) ?_
                refine lv_iload_n X.1 X.2.1 dc_M_owns_63 rfl (lv_at hl 1 rfl) ?_
                refine cx_icmp_ne (tgt := 72) X (by omega) (by omega) (by omega) (by omega) dc_M_owns_64 (by decide) (fun c_12 => ?_) (fun c_12 => ?_)
                · refine lv_iload X.1 X.2.1 dc_M_owns_72 (lv_at hl 4 rfl) ?_
                  refine lv_aload_n X.1 X.2.1 dc_M_owns_74 rfl (lv_at hl 0 rfl) ?_
                  refine cx_get (v := .ref (ad 37 0)) X B (wM_20 u ad S sc) rfl uw_M 21 (by decide) gf_M_67 rfl dc_M_owns_75 ?_
                  refine cx_bipush X dc_M_owns_78 (by decide +kernel) ?_
                  refine lv_iload X.1 X.2.1 dc_M_owns_80 (lv_at hl 5 rfl) ?_
                  refine cx_imul X dc_M_owns_82 ?_
                  refine lv_iload_n X.1 X.2.1 dc_M_owns_83 rfl (lv_at hl 2 rfl) ?_
                  refine cx_iadd X dc_M_owns_84 ?_
                  refine cx_iald X B (wM_37 u ad S sc) ((10 * q) + j) (by omega) (by omega) (by decide) dc_M_owns_85 ?_
                  rw [show ((10 * q) + j) / 10 = q by omega, show ((10 * q) + j) % 10 = j by omega]
                  refine cx_iadd X dc_M_owns_86 ?_
                  refine lv_istore (lv' := [(4, .int (jI ((x + cs_oth S (i : Int) j q) + (S 11 q j)))), (0, .ref (ad 20 0)), (1, .int (jI ((i : Int)))), (2, .int (jI ((j : Int)))), (3, .int (jI (x))), (5, .int (jI ((q : Int))))]) X.1 X.2.1 dc_M_owns_87 hl (by decide) rfl (fun ls hl => ?_)
                  refine lv_iinc (v := jI ((q : Int) + 1)) (lv' := [(5, .int (jI ((q : Int) + 1))), (4, .int (jI ((x + cs_oth S (i : Int) j q) + (S 11 q j)))), (0, .ref (ad 20 0)), (1, .int (jI ((i : Int)))), (2, .int (jI ((j : Int)))), (3, .int (jI (x)))]) X.1 X.2.1 dc_M_owns_89 hl (k := 5) rfl (jI_add _ _) (by decide) rfl (fun ls hl => ?_)
                  refine lv_goto (tgt := 54) X.1 X.2.1 dc_M_owns_92 (by decide) ?_
                  have qq : x + cs_oth S (i : Int) j (q + 1) = (x + cs_oth S (i : Int) j q) + (S 11 q j) := by rw [cs_oth_s, if_neg (by omega)]; omega
                  exact ih_7 (q + 1) ls _ _  (by omega) (by omega) B (by rw [qq]; exact lv_sub hl [2, 3, 4, 5, 1, 0] rfl)
                · refine lv_iload X.1 X.2.1 dc_M_owns_67 (lv_at hl 4 rfl) ?_
                  refine lv_goto (tgt := 87) X.1 X.2.1 dc_M_owns_69 (by decide) ?_
                  refine lv_istore (lv' := [(4, .int (jI (x + cs_oth S (i : Int) j q))), (0, .ref (ad 20 0)), (1, .int (jI ((i : Int)))), (2, .int (jI ((j : Int)))), (3, .int (jI (x))), (5, .int (jI ((q : Int))))]) X.1 X.2.1 dc_M_owns_87 hl (by decide) rfl (fun ls hl => ?_)
                  refine lv_iinc (v := jI ((q : Int) + 1)) (lv' := [(5, .int (jI ((q : Int) + 1))), (4, .int (jI (x + cs_oth S (i : Int) j q))), (0, .ref (ad 20 0)), (1, .int (jI ((i : Int)))), (2, .int (jI ((j : Int)))), (3, .int (jI (x)))]) X.1 X.2.1 dc_M_owns_89 hl (k := 5) rfl (jI_add _ _) (by decide) rfl (fun ls hl => ?_)
                  refine lv_goto (tgt := 54) X.1 X.2.1 dc_M_owns_92 (by decide) ?_
                  have qq : x + cs_oth S (i : Int) j (q + 1) = x + cs_oth S (i : Int) j q := by rw [cs_oth_s, if_pos (by omega)]; omega
                  exact ih_7 (q + 1) ls _ _  (by omega) (by omega) B (by rw [qq]; exact lv_sub hl [2, 3, 4, 5, 1, 0] rfl)
          exact lp_5 ((10 : Int).toNat + 1) 0 ls _ _  (by omega) (by omega) B (by rw [show x + cs_oth S (i : Int) j 0 = x by simp [cs_oth, cs_sum]]; exact lv_sub hl [2, 3, 4, 5, 1, 0] rfl)
        · refine lv_iload_n X.1 X.2.1 dc_M_owns_32 rfl (lv_at hl 1 rfl) ?_
          refine lv_iload_n X.1 X.2.1 dc_M_owns_33 rfl (lv_at hl 2 rfl) ?_
          refine cx_icmp_eq (tgt := 46) X (by omega) (by omega) (by omega) (by omega) dc_M_owns_34 (by decide) (fun c_13 => ?_) (fun c_13 => ?_)
          · have hyes : 0 < cs_hold S (j : Int) 9 i := hrs.mp (cs_rs_le (n := 0) (by omega) (show (i : Int) = (j : Int) by omega))
            refine cx_iconst X dc_M_owns_46 ?_
            have hQ : ¬ cs_ownP S (i : Int) (j : Int) x := fun q => q.2.1 ⟨by omega, by simp only [cs_nn]; exact hyes⟩
            exact cx_zretM X B hsz hr hlk (Nat.le_of_ble_eq_true rfl) (Nat.le_of_ble_eq_true rfl) (by omega) (by omega) (by rw [jB_f hQ]) ⟨_, by rw [op_owns_f hQ]⟩ dc_M_owns_47
          · refine lv_aload_n X.1 X.2.1 dc_M_owns_37 rfl (lv_at hl 0 rfl) ?_
            refine lv_iload_n X.1 X.2.1 dc_M_owns_38 rfl (lv_at hl 2 rfl) ?_
            refine lv_iload_n X.1 X.2.1 dc_M_owns_39 rfl (lv_at hl 1 rfl) ?_
            refine cx_cVM (As := [.int (jI ((j : Int))), .int (jI ((i : Int)))]) (rest := []) X B kc_M_reaches gm_M_144 (c_M_reaches l u _ ad S sc hI j i (by omega) (by omega)) (wM_20 u ad S sc) rfl rfl ⟨(Nat.le_of_ble_eq_true rfl), (Nat.le_of_ble_eq_true rfl)⟩ ⟨(Nat.le_of_ble_eq_true rfl), (Nat.le_of_ble_eq_true rfl)⟩ rfl hl.1 (Nat.le_of_ble_eq_true rfl) dc_M_owns_40 rfl (fun H locs w' hw B => ?_)
            obtain ⟨sc1, rfl⟩ := hw
            refine cx_ifeqB (tgt := 48) X dc_M_owns_43 (by decide) (fun c_14 => ?_) (fun c_14 => ?_)
            · have hno : ¬ 0 < cs_hold S (j : Int) 9 i := fun q => c_14 (hrs.mpr q)
              refine lv_iload_n X.1 X.2.1 dc_M_owns_48 rfl (lv_at hl 3 rfl) ?_
              refine lv_istore (lv' := [(4, .int (jI (x))), (0, .ref (ad 20 0)), (1, .int (jI ((i : Int)))), (2, .int (jI ((j : Int)))), (3, .int (jI (x)))]) X.1 X.2.1 dc_M_owns_49 hl (by decide) rfl (fun ls hl => ?_)
              refine cx_iconst X dc_M_owns_51 ?_
              refine lv_istore (lv' := [(5, .int (jI (0))), (4, .int (jI (x))), (0, .ref (ad 20 0)), (1, .int (jI ((i : Int)))), (2, .int (jI ((j : Int)))), (3, .int (jI (x)))]) X.1 X.2.1 dc_M_owns_52 hl (by decide) rfl (fun ls hl => ?_)
              have lp_15 : ∀ (n_16 q : Nat) (ls : Array Slot) (H : Heap) (locs : List Loc) , (q : Int) ≤ 10 → 10 - (q : Int) < (n_16 : Int) → cx_B u (cx_A (wM u ad S sc) sz) (wM u ad S sc1) s H locs → lv_has ls 6 [(0, .ref (ad 20 0)), (1, .int (jI ((i : Int)))), (2, .int (jI ((j : Int)))), (3, .int (jI (x))), (4, .int (jI (x + cs_oth S (i : Int) j q))), (5, .int (jI ((q : Int))))] → W p l e (cx_R 2 45 0 0) s m args below meth c H locs 0 0 (MQ below (cx_Q u (wM u ad S sc) sz (some (.int (jI (jB (cs_ownP S (i : Int) (j : Int) x))))) (fun w' => ∃ sc', w' = wM u ad (op_owns S (i : Int) (j : Int) x) sc')) args s 0 0 (cx_A (wM u ad S sc) sz)) (F0 m 54 ls []) := by
                intro n_16
                induction n_16 with
                | zero => intro q ls H locs  hi_18 hn_19; exfalso; omega
                | succ n_16 ih_17 =>
                  intro q ls H locs  hi_18 hn_19 B hl
                  have hob := cs_oth_b hI (i : Int) j q
                  refine lv_iload X.1 X.2.1 dc_M_owns_54 (lv_at hl 5 rfl) ?_
                  refine cx_bipush X dc_M_owns_56 (by decide +kernel) ?_
                  refine cx_icmp_ge (tgt := 95) X (by omega) (by omega) (by omega) (by omega) dc_M_owns_58 (by decide) (fun c_20 => ?_) (fun c_20 => ?_)
                  · refine lv_iload X.1 X.2.1 dc_M_owns_95 (lv_at hl 4 rfl) ?_
                    refine cx_bipush X dc_M_owns_97 (by decide +kernel) ?_
                    refine cx_icmp_le (tgt := 104) X (by omega) (by omega) (by omega) (by omega) dc_M_owns_99 (by decide) (fun c_21 => ?_) (fun c_21 => ?_)
                    · refine lv_aload_n X.1 X.2.1 dc_M_owns_104 rfl (lv_at hl 0 rfl) ?_
                      refine cx_get (v := .ref (ad 37 0)) X B (wM_20 u ad S sc1) rfl uw_M 21 (by decide) gf_M_67 rfl dc_M_owns_105 ?_
                      refine cx_bipush X dc_M_owns_108 (by decide +kernel) ?_
                      refine lv_iload_n X.1 X.2.1 dc_M_owns_110 rfl (lv_at hl 1 rfl) ?_
                      refine cx_imul X dc_M_owns_111 ?_
                      refine lv_iload_n X.1 X.2.1 dc_M_owns_112 rfl (lv_at hl 2 rfl) ?_
                      refine cx_iadd X dc_M_owns_113 ?_
                      refine lv_iload_n X.1 X.2.1 dc_M_owns_114 rfl (lv_at hl 3 rfl) ?_
                      refine cx_iast X B (wM_37 u ad S sc1) ((10 * i) + j) (by omega) (by omega) (by decide) dc_M_owns_115 (fun H locs B => ?_)
                      have B : cx_B u (cx_A (wM u ad S sc) sz) (cx_up (wM u ad S sc1) 37 0 (ad 37 0, .inl (u.2 0, 100, .inl (fun z_ => jI (va_up (fun z_ => S 11 (z_ / 10) (z_ % 10)) ((10 * i) + j) x z_))))) s H locs := B
                      refine cx_iconst X dc_M_owns_116 ?_
                      have hq10 : q = 10 := by omega
                      subst hq10
                      have hQ : cs_ownP S (i : Int) (j : Int) x := ⟨by omega, by simp only [cs_nn]; omega, by simp only [cs_nn]; omega⟩
                      have hG : cx_up (wM u ad S sc1) 37 0 (ad 37 0, .inl (u.2 0, 100, .inl (fun z_ => jI (va_up (fun z_ => S 11 (z_ / 10) (z_ % 10)) ((10 * i) + j) x z_)))) = wM u ad (op_owns S (i : Int) (j : Int) x) sc1 := by rw [op_owns_t hQ]; exact wM_f11 u ad S sc1 (by omega) x
                      exact cx_zretM X B hsz hr hlk (Nat.le_of_ble_eq_true rfl) (Nat.le_of_ble_eq_true rfl) (by omega) (by omega) (by rw [jB_t hQ]) ⟨_, hG⟩ dc_M_owns_117
                    · refine cx_iconst X dc_M_owns_102 ?_
                      have hq10 : q = 10 := by omega
                      subst hq10
                      have hQ : ¬ cs_ownP S (i : Int) (j : Int) x := fun q => by have q1 := q.2.2; simp only [cs_nn] at q1; omega
                      exact cx_zretM X B hsz hr hlk (Nat.le_of_ble_eq_true rfl) (Nat.le_of_ble_eq_true rfl) (by omega) (by omega) (by rw [jB_f hQ]) ⟨_, by rw [op_owns_f hQ]⟩ dc_M_owns_103
                  · refine lv_iload X.1 X.2.1 dc_M_owns_61 (lv_at hl 5 rfl) ?_
                    refine lv_iload_n X.1 X.2.1 dc_M_owns_63 rfl (lv_at hl 1 rfl) ?_
                    refine cx_icmp_ne (tgt := 72) X (by omega) (by omega) (by omega) (by omega) dc_M_owns_64 (by decide) (fun c_22 => ?_) (fun c_22 => ?_)
                    · refine lv_iload X.1 X.2.1 dc_M_owns_72 (lv_at hl 4 rfl) ?_
                      refine lv_aload_n X.1 X.2.1 dc_M_owns_74 rfl (lv_at hl 0 rfl) ?_
                      refine cx_get (v := .ref (ad 37 0)) X B (wM_20 u ad S sc1) rfl uw_M 21 (by decide) gf_M_67 rfl dc_M_owns_75 ?_
                      refine cx_bipush X dc_M_owns_78 (by decide +kernel) ?_
                      refine lv_iload X.1 X.2.1 dc_M_owns_80 (lv_at hl 5 rfl) ?_
                      refine cx_imul X dc_M_owns_82 ?_
                      refine lv_iload_n X.1 X.2.1 dc_M_owns_83 rfl (lv_at hl 2 rfl) ?_
                      refine cx_iadd X dc_M_owns_84 ?_
                      refine cx_iald X B (wM_37 u ad S sc1) ((10 * q) + j) (by omega) (by omega) (by decide) dc_M_owns_85 ?_
                      rw [show ((10 * q) + j) / 10 = q by omega, show ((10 * q) + j) % 10 = j by omega]
                      refine cx_iadd X dc_M_owns_86 ?_
                      refine lv_istore (lv' := [(4, .int (jI ((x + cs_oth S (i : Int) j q) + (S 11 q j)))), (0, .ref (ad 20 0)), (1, .int (jI ((i : Int)))), (2, .int (jI ((j : Int)))), (3, .int (jI (x))), (5, .int (jI ((q : Int))))]) X.1 X.2.1 dc_M_owns_87 hl (by decide) rfl (fun ls hl => ?_)
                      refine lv_iinc (v := jI ((q : Int) + 1)) (lv' := [(5, .int (jI ((q : Int) + 1))), (4, .int (jI ((x + cs_oth S (i : Int) j q) + (S 11 q j)))), (0, .ref (ad 20 0)), (1, .int (jI ((i : Int)))), (2, .int (jI ((j : Int)))), (3, .int (jI (x)))]) X.1 X.2.1 dc_M_owns_89 hl (k := 5) rfl (jI_add _ _) (by decide) rfl (fun ls hl => ?_)
                      refine lv_goto (tgt := 54) X.1 X.2.1 dc_M_owns_92 (by decide) ?_
                      have qq : x + cs_oth S (i : Int) j (q + 1) = (x + cs_oth S (i : Int) j q) + (S 11 q j) := by rw [cs_oth_s, if_neg (by omega)]; omega
                      exact ih_17 (q + 1) ls _ _  (by omega) (by omega) B (by rw [qq]; exact lv_sub hl [2, 3, 4, 5, 1, 0] rfl)
                    · refine lv_iload X.1 X.2.1 dc_M_owns_67 (lv_at hl 4 rfl) ?_
                      refine lv_goto (tgt := 87) X.1 X.2.1 dc_M_owns_69 (by decide) ?_
                      refine lv_istore (lv' := [(4, .int (jI (x + cs_oth S (i : Int) j q))), (0, .ref (ad 20 0)), (1, .int (jI ((i : Int)))), (2, .int (jI ((j : Int)))), (3, .int (jI (x))), (5, .int (jI ((q : Int))))]) X.1 X.2.1 dc_M_owns_87 hl (by decide) rfl (fun ls hl => ?_)
                      refine lv_iinc (v := jI ((q : Int) + 1)) (lv' := [(5, .int (jI ((q : Int) + 1))), (4, .int (jI (x + cs_oth S (i : Int) j q))), (0, .ref (ad 20 0)), (1, .int (jI ((i : Int)))), (2, .int (jI ((j : Int)))), (3, .int (jI (x)))]) X.1 X.2.1 dc_M_owns_89 hl (k := 5) rfl (jI_add _ _) (by decide) rfl (fun ls hl => ?_)
                      refine lv_goto (tgt := 54) X.1 X.2.1 dc_M_owns_92 (by decide) ?_
                      have qq : x + cs_oth S (i : Int) j (q + 1) = x + cs_oth S (i : Int) j q := by rw [cs_oth_s, if_pos (by omega)]; omega
                      exact ih_17 (q + 1) ls _ _  (by omega) (by omega) B (by rw [qq]; exact lv_sub hl [2, 3, 4, 5, 1, 0] rfl)
              exact lp_15 ((10 : Int).toNat + 1) 0 ls _ _  (by omega) (by omega) B (by rw [show x + cs_oth S (i : Int) j 0 = x by simp [cs_oth, cs_sum]]; exact lv_sub hl [2, 3, 4, 5, 1, 0] rfl)
            · have hyes : 0 < cs_hold S (j : Int) 9 i := hrs.mp c_14
              refine cx_iconst X dc_M_owns_46 ?_
              have hQ : ¬ cs_ownP S (i : Int) (j : Int) x := fun q => q.2.1 ⟨by omega, by simp only [cs_nn]; exact hyes⟩
              exact cx_zretM X B hsz hr hlk (Nat.le_of_ble_eq_true rfl) (Nat.le_of_ble_eq_true rfl) (by omega) (by omega) (by rw [jB_f hQ]) ⟨_, by rw [op_owns_f hQ]⟩ dc_M_owns_47
      · refine cx_iconst X dc_M_owns_26 ?_
        have hQ : ¬ cs_ownP S a b x := fun q => by have q1 := q.1; omega
        exact cx_zretM X B hsz hr hlk (Nat.le_of_ble_eq_true rfl) (Nat.le_of_ble_eq_true rfl) (by omega) (by omega) (by rw [jB_f hQ]) ⟨_, by rw [op_owns_f hQ]⟩ dc_M_owns_27
