theorem cs_sum_10 (f : Nat → Int) (n : Nat) : 10 * cs_sum (fun k => f k / 10) n ≤ cs_sum f n := by
  induction n with
  | zero => exact Int.le_refl _
  | succ n ih => rw [cs_sum_s, cs_sum_s]; omega
theorem op_out_21 (S : cs_S) (i p q : Nat) : op_out S i 21 p q = if p = i ∧ q < 12 then cs_s0 (S 20 i) (S 12 i 0 - S 13 i 0) (cs_sum (S 20 i) 12) q else S 21 p q := by
  by_cases z1 : p = i <;> by_cases z2 : q < 12 <;> simp [op_out, cs_u, cs_ss, z1, z2]
theorem op_co_21 (S : cs_S) (i k n p q : Nat) : op_co S i k n 21 p q = if p = i ∧ q < n then cs_cs S i k q else S 21 p q := by
  by_cases z1 : p = i <;> by_cases z2 : q < n <;> simp [op_co, cs_u, cs_ss, z1, z2]
theorem cs_carry_10 {S : cs_S} (hI : cs_I S) (k h : Nat) : cs_carry S k h ≤ S 21 k h / 10 := by
  have h1 := hI.1
  have h2 := cs_op_b hI k h
  have h3 := hI.2.2.2.2.2.1 k h
  unfold cs_carry
  split
  · have := Int.ediv_nonneg (show 0 ≤ cs_over S k h * S 3 0 0 + S 4 0 0 - 1 by omega) (show 0 ≤ S 4 0 0 by omega)
    omega
  · split <;> omega
theorem cs_s0_b {S : cs_S} (hI : cs_I S) (hY : cs_Y S) (i : Nat) (ht : 1 ≤ cs_sum (S 20 i) 12) : (∀ j, 0 ≤ cs_s0 (S 20 i) (S 12 i 0 - S 13 i 0) (cs_sum (S 20 i) 12) j) ∧ cs_sum (cs_s0 (S 20 i) (S 12 i 0 - S 13 i 0) (cs_sum (S 20 i) 12)) 12 ≤ 1000000012 := by
  have h1 := hI.1
  have h5 := hI.2.2.2.2.1 i
  have hb := (cs_spare_b (wt := S 20 i) (wh := S 12 i 0 - S 13 i 0) (n := (S 1 0 0).toNat) (by omega) ht (fun j hj => (hY i j (by omega)).1)).1
  have hq : ∀ j, 0 ≤ cs_qu (S 20 i) (S 12 i 0 - S 13 i 0) (cs_sum (S 20 i) 12) j := fun j => by
    unfold cs_qu
    exact Int.ediv_nonneg (Int.mul_nonneg (by omega) (hI.2.2.2.2.2.1 i j).1) (by omega)
  constructor
  · intro j
    have := hq j
    unfold cs_s0
    split <;> omega
  · have h2 := cs_sum_add (cs_qu (S 20 i) (S 12 i 0 - S 13 i 0) (cs_sum (S 20 i) 12)) (fun h => if cs_rk (S 20 i) (S 12 i 0 - S 13 i 0) (cs_sum (S 20 i) 12) h 12 < cs_spare (S 20 i) (S 12 i 0 - S 13 i 0) (cs_sum (S 20 i) 12) then 1 else 0) 12
    have h3 := (cs_sum_b (f := fun h => if cs_rk (S 20 i) (S 12 i 0 - S 13 i 0) (cs_sum (S 20 i) 12) h 12 < cs_spare (S 20 i) (S 12 i 0 - S 13 i 0) (cs_sum (S 20 i) 12) then (1 : Int) else 0) (a := 0) (b := 1) (n := 12) (fun k _ => by
      show 0 ≤ (if cs_rk (S 20 i) (S 12 i 0 - S 13 i 0) (cs_sum (S 20 i) 12) k 12 < cs_spare (S 20 i) (S 12 i 0 - S 13 i 0) (cs_sum (S 20 i) 12) then (1 : Int) else 0) ∧ (if cs_rk (S 20 i) (S 12 i 0 - S 13 i 0) (cs_sum (S 20 i) 12) k 12 < cs_spare (S 20 i) (S 12 i 0 - S 13 i 0) (cs_sum (S 20 i) 12) then (1 : Int) else 0) ≤ 1
      split <;> omega)).2
    have h4 : cs_sum (cs_s0 (S 20 i) (S 12 i 0 - S 13 i 0) (cs_sum (S 20 i) 12)) 12 = cs_sum (fun k => cs_qu (S 20 i) (S 12 i 0 - S 13 i 0) (cs_sum (S 20 i) 12) k + (if cs_rk (S 20 i) (S 12 i 0 - S 13 i 0) (cs_sum (S 20 i) 12) k 12 < cs_spare (S 20 i) (S 12 i 0 - S 13 i 0) (cs_sum (S 20 i) 12) then 1 else 0)) 12 := rfl
    have h6 : cs_spare (S 20 i) (S 12 i 0 - S 13 i 0) (cs_sum (S 20 i) 12) = S 12 i 0 - S 13 i 0 - cs_sum (cs_qu (S 20 i) (S 12 i 0 - S 13 i 0) (cs_sum (S 20 i) 12)) 12 := rfl
    rw [h4, h2]
    omega
theorem cs_J {S : cs_S} (hI : cs_I S) (hY : cs_Y S) : ∀ i : Nat, (i : Int) < S 0 0 0 → S 14 i 0 = 0 → 1 ≤ cs_sum (S 20 i) 12 → cs_I (op_out S i) ∧ ∀ k : Nat, S 15 i 0 = (k : Int) → (k : Int) < S 0 0 0 → k ≠ i → ∀ n, n ≤ 12 → cs_I (op_co (op_out S i) i k n) := by
  intro i hi h14 ht
  have hb := cs_s0_b hI hY i ht
  have hs : cs_sum (op_out S i 21 i) 12 ≤ 1000000012 := by
    rw [cs_sum_c (f := op_out S i 21 i) (g := cs_s0 (S 20 i) (S 12 i 0 - S 13 i 0) (cs_sum (S 20 i) 12)) (fun q hq => by rw [op_out_21, if_pos ⟨rfl, hq⟩])]
    exact hb.2
  have hO : cs_I (op_out S i) := by
    refine cs_I_21 hI (fun f h1 h2 h3 => by funext x y; simp [op_out, cs_u, cs_ss, h1, h3]) (fun p q => ?_) (fun p => ?_) (fun p q hq => ?_)
    · rw [op_out_21]
      split
      · exact hb.1 q
      · have := hI.2.2.2.2.2.1 p q; omega
    · by_cases hp : p = i
      · subst hp; omega
      · rw [cs_sum_c (f := op_out S i 21 p) (g := S 21 p) (fun q _ => by rw [op_out_21, if_neg (fun z => hp z.1)])]
        exact hI.2.2.2.2.2.2 p
    · rw [op_out_21, if_neg (by omega)]
      have := hI.2.2.2.2.2.1 p q; omega
  refine ⟨hO, fun k h15 hk hki n hn => ?_⟩
  refine cs_I_21 hO (fun f h1 h2 h3 => by funext x y; simp [op_co, cs_u, cs_ss, h1, h3]) (fun p q => ?_) (fun p => ?_) (fun p q hq => ?_)
  · rw [op_co_21]
    split
    · unfold cs_cs cs_mx; split <;> omega
    · have := hO.2.2.2.2.2.1 p q; omega
  · by_cases hp : p = i
    · subst hp
      have h1 := (cs_sum_lt (f := op_co (op_out S p) p k n 21 p) (g := fun q => op_out S p 21 p q + op_out S p 21 k q / 10) (n := 12) (fun q hq => by
        rw [op_co_21]
        have h2 := cs_carry_10 hO k q
        have h3 := hO.2.2.2.2.2.1 p q
        have h4 := hO.2.2.2.2.2.1 k q
        split
        · unfold cs_cs cs_mx; split <;> omega
        · omega)).1
      rw [cs_sum_add] at h1
      have h2 := cs_sum_10 (op_out S p 21 k) 12
      have h3 := hO.2.2.2.2.2.2 k
      omega
    · rw [cs_sum_c (f := op_co (op_out S i) i k n 21 p) (g := op_out S i 21 p) (fun q _ => by rw [op_co_21, if_neg (fun z => hp z.1)])]
      exact hO.2.2.2.2.2.2 p
  · rw [op_co_21, if_neg (by omega)]
    have := hO.2.2.2.2.2.1 p q; omega
theorem op_ca_n (S : cs_S) (i : Nat) {f x y : Nat} (h : x ≠ i) : op_ca S i f x y = S f x y := by
  unfold op_ca
  split <;> simp [op_co, op_out, cs_u, cs_ss, h]
theorem K_part {S : cs_S} (K : cs_K S) (a : Int) : cs_K (op_part S a) := by
  by_cases hq : 0 ≤ a ∧ a < S 0 0 0 ∧ S 14 a.toNat 0 = 0 ∧ 1 ≤ cs_sum (S 20 a.toNat) 12
  · rw [op_part, if_pos hq]
    obtain ⟨hI, hP, hF, hZ, hY, hX, hN, hE, hC⟩ := K
    have hI1 := hI.1
    obtain ⟨i, rfl⟩ : ∃ i : Nat, a = (i : Int) := ⟨a.toNat, by omega⟩
    simp only [cs_nn] at hq ⊢
    obtain ⟨T, hT⟩ : ∃ T, T = cs_u (cs_u (op_ca S i) 14 i 0 1) 19 i 0 (S 19 i 0 + (op_ca S i 22 i 0 - (S 12 i 0 - S 13 i 0))) := ⟨_, rfl⟩
    rw [← hT]
    have hj := cs_J hI hY i hq.2.1 hq.2.2.1 hq.2.2.2
    have hca : cs_I (op_ca S i) := by
      rcases hF i hq.2.1 hq.2.2.1 with z | ⟨k, z, hk, hki⟩
      · rw [op_ca, if_pos z]; exact hj.1
      · rw [op_ca, if_neg (by omega), z]; exact hj.2 k z hk hki _ (by omega)
    have tf : ∀ f x y, f ≠ 14 → f ≠ 19 → f ≠ 21 → f ≠ 22 → T f x y = S f x y := fun f x y h1 h2 h3 h4 => by
      rw [hT]; simp [cs_u, h1, h2]; exact op_ca_e S i h3 h4
    have tn : ∀ f x y, x ≠ i → T f x y = S f x y := fun f x y h1 => by
      rw [hT]; simp [cs_u, h1]; exact op_ca_n S i h1
    have t14 : T 14 i 0 = 1 := by rw [hT]; simp [cs_u]
    have t19 : T 19 i 0 = S 19 i 0 + (op_ca S i 22 i 0 - (S 12 i 0 - S 13 i 0)) := by rw [hT]; simp [cs_u]
    have t22 : T 22 i 0 = op_ca S i 22 i 0 := by rw [hT]; simp [cs_u]
    have t21 : ∀ x y, T 21 x y = op_ca S i 21 x y := fun x y => by rw [hT]; simp [cs_u]
    have hz : ∀ y : Nat, S 1 0 0 ≤ (y : Int) → op_ca S i 21 i y = 0 := fun y hy => by
      have h1 : op_out S i 21 i y = 0 := by
        rw [op_out_21]
        split
        · exact cs_s0_z (n := (S 1 0 0).toNat) (by omega) hq.2.2.2 (fun j hj => (hY i j (by omega)).1) (by omega)
        · exact (hY i y hy).2
      unfold op_ca
      split
      · exact h1
      · rw [op_co_21, if_neg (by omega)]; exact h1
    refine ⟨?_, ?_, ?_, ?_, ?_, ?_, ?_, ?_, ?_⟩
    · rw [hT]
      refine ⟨hca.1, hca.2.1, hca.2.2.1, hca.2.2.2.1, fun i_ => ?_, hca.2.2.2.2.2.1, hca.2.2.2.2.2.2⟩
      have q := hca.2.2.2.2.1 i_
      by_cases z : i_ = i <;> simp [cs_u, z] <;> (try subst z) <;> omega
    · intro j
      rw [cs_sum_c (f := fun q => T 11 q j) (g := fun q => S 11 q j) (fun q _ => tf 11 q j (by decide) (by decide) (by decide) (by decide))]
      exact hP j
    · intro p hp h14
      rw [tf 0 0 0 (by decide) (by decide) (by decide) (by decide)] at hp ⊢
      rw [tf 15 p 0 (by decide) (by decide) (by decide) (by decide)]
      by_cases hpi : p = i
      · rw [hpi, t14] at h14; omega
      · rw [tn 14 p 0 hpi] at h14; exact hF p hp h14
    · intro f p q h1 h2 h3
      rw [tf 0 0 0 (by decide) (by decide) (by decide) (by decide)] at h3
      rw [tn f p q (fun z => by rw [z] at h3; omega)]
      exact hZ f p q h1 h2 h3
    · intro p q h3
      rw [tf 1 0 0 (by decide) (by decide) (by decide) (by decide)] at h3
      rw [tf 20 p q (by decide) (by decide) (by decide) (by decide)]
      refine ⟨(hY p q h3).1, ?_⟩
      by_cases hpi : p = i
      · rw [hpi, t21]; exact hz q h3
      · rw [tn 21 p q hpi]; exact (hY p q h3).2
    · intro p h14
      rw [tf 12 p 0 (by decide) (by decide) (by decide) (by decide), tf 13 p 0 (by decide) (by decide) (by decide) (by decide)]
      by_cases hpi : p = i
      · have := hE i hq.2.2.1
        rw [hpi, t19, t22]; omega
      · rw [tn 14 p 0 hpi] at h14
        rw [tn 22 p 0 hpi, tn 19 p 0 hpi]; exact hX p h14
    · intro p q h14
      by_cases hpi : p = i
      · rw [hpi, t14] at h14; omega
      · rw [tn 14 p 0 hpi] at h14
        rw [tn 21 p q hpi]; exact hN p q h14
    · intro p h14
      by_cases hpi : p = i
      · rw [hpi, t14] at h14; omega
      · rw [tn 14 p 0 hpi] at h14
        rw [tn 19 p 0 hpi]; exact hE p h14
    · exact cs_C_c (S := S) (by funext x y; exact tf 11 x y (by decide) (by decide) (by decide) (by decide)) hC
  · rw [op_part, if_neg hq]; exact K
