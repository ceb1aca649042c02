theorem K_pen {S : cs_S} (K : cs_K S) (a b : Int) : cs_K (op_pen S a b) := by
  unfold op_pen
  split
  · rename_i hq
    obtain ⟨hI, hP, hF, hZ, hY, hX, hN, hE, hC⟩ := K
    have hI1 := hI.1
    exact ⟨⟨(by simp [cs_u]; omega), hI.2.1, hI.2.2.1, hI.2.2.2.1, hI.2.2.2.2.1, hI.2.2.2.2.2.1, hI.2.2.2.2.2.2⟩, hP, hF, (cs_Z_u (cs_Z_u (hZ) (by decide) (fun _ _ => by first | omega | (show ((_ : Nat) : Int) < S 0 0 0; omega))) (by decide) (fun _ _ => by first | omega | (show ((_ : Nat) : Int) < S 0 0 0; omega))), hY, hX, hN, hE, (cs_C_c (S := S) rfl hC)⟩
  · exact K
theorem K_into {S : cs_S} (K : cs_K S) (a b : Int) : cs_K (op_into S a b) := by
  unfold op_into
  split
  · rename_i hq
    obtain ⟨hI, hP, hF, hZ, hY, hX, hN, hE, hC⟩ := K
    have hI1 := hI.1
    obtain ⟨h, rfl⟩ : ∃ h : Nat, a = (h : Int) := ⟨a.toNat, by omega⟩
    simp only [cs_nn] at hq ⊢
    exact ⟨⟨hI.1, (fun i_ => by have q := hI.2.1 i_; by_cases z_ : i_ = h <;> simp [cs_u, z_] <;> (try subst z_) <;> omega), hI.2.2.1, hI.2.2.2.1, hI.2.2.2.2.1, hI.2.2.2.2.2.1, hI.2.2.2.2.2.2⟩, hP, hF, (cs_Z_u (hZ) (by decide) (fun _ _ => by first | omega | (show ((_ : Nat) : Int) < S 0 0 0; omega))), hY, hX, hN, hE, (cs_C_c (S := S) rfl hC)⟩
  · exact K
theorem K_cap {S : cs_S} (K : cs_K S) (a b : Int) : cs_K (op_cap S a b) := by
  unfold op_cap
  split
  · rename_i hq
    obtain ⟨hI, hP, hF, hZ, hY, hX, hN, hE, hC⟩ := K
    have hI1 := hI.1
    obtain ⟨i, rfl⟩ : ∃ i : Nat, a = (i : Int) := ⟨a.toNat, by omega⟩
    simp only [cs_nn] at hq ⊢
    exact ⟨⟨hI.1, hI.2.1, hI.2.2.1, hI.2.2.2.1, (fun i_ => by have q := hI.2.2.2.2.1 i_; by_cases z_ : i_ = i <;> simp [cs_u, z_] <;> (try subst z_) <;> omega), hI.2.2.2.2.2.1, hI.2.2.2.2.2.2⟩, hP, hF, (cs_Z_u (hZ) (by decide) (fun _ _ => by first | omega | (show ((_ : Nat) : Int) < S 0 0 0; omega))), hY, hX, hN, hE, (cs_C_c (S := S) rfl hC)⟩
  · exact K
theorem K_seen {S : cs_S} (K : cs_K S) (a x y : Int) : cs_K (op_seen S a x y) := by
  unfold op_seen
  split
  · rename_i hq
    obtain ⟨hI, hP, hF, hZ, hY, hX, hN, hE, hC⟩ := K
    have hI1 := hI.1
    obtain ⟨i, rfl⟩ : ∃ i : Nat, a = (i : Int) := ⟨a.toNat, by omega⟩
    simp only [cs_nn] at hq ⊢
    exact ⟨⟨hI.1, hI.2.1, hI.2.2.1, hI.2.2.2.1, (fun i_ => by have q := hI.2.2.2.2.1 i_; by_cases z_ : i_ = i <;> simp [cs_u, z_] <;> (try subst z_) <;> omega), hI.2.2.2.2.2.1, hI.2.2.2.2.2.2⟩, hP, hF, (cs_Z_u (cs_Z_u (hZ) (by decide) (fun _ _ => by first | omega | (show ((_ : Nat) : Int) < S 0 0 0; omega))) (by decide) (fun _ _ => by first | omega | (show ((_ : Nat) : Int) < S 0 0 0; omega))), hY, hX, hN, hE, (cs_C_c (S := S) rfl hC)⟩
  · exact K
theorem K_weight {S : cs_S} (K : cs_K S) (a b x : Int) : cs_K (op_weight S a b x) := by
  unfold op_weight
  split
  · rename_i hq
    obtain ⟨hI, hP, hF, hZ, hY, hX, hN, hE, hC⟩ := K
    have hI1 := hI.1
    obtain ⟨i, rfl⟩ : ∃ i : Nat, a = (i : Int) := ⟨a.toNat, by omega⟩
    obtain ⟨h, rfl⟩ : ∃ h : Nat, b = (h : Int) := ⟨b.toNat, by omega⟩
    simp only [cs_nn] at hq ⊢
    exact ⟨⟨hI.1, hI.2.1, hI.2.2.1, hI.2.2.2.1, hI.2.2.2.2.1, (fun i_ j_ => by have q := hI.2.2.2.2.2.1 i_ j_; by_cases z_ : i_ = i <;> by_cases y_ : j_ = h <;> simp [cs_u, z_, y_] <;> (try subst z_) <;> (try subst y_) <;> omega), hI.2.2.2.2.2.2⟩, hP, hF, (cs_Z_u (hZ) (by decide) (fun _ _ => by first | omega | (show ((_ : Nat) : Int) < S 0 0 0; omega))), (cs_Y_u hY (by decide) (fun _ => by omega)), hX, hN, hE, (cs_C_c (S := S) rfl hC)⟩
  · exact K
theorem K_aside {S : cs_S} (K : cs_K S) (a x : Int) : cs_K (op_aside S a x) := by
  unfold op_aside
  split
  · rename_i hq
    obtain ⟨hI, hP, hF, hZ, hY, hX, hN, hE, hC⟩ := K
    have hI1 := hI.1
    obtain ⟨i, rfl⟩ : ∃ i : Nat, a = (i : Int) := ⟨a.toNat, by omega⟩
    simp only [cs_nn] at hq ⊢
    exact ⟨⟨hI.1, hI.2.1, hI.2.2.1, hI.2.2.2.1, (fun i_ => by have q := hI.2.2.2.2.1 i_; by_cases z_ : i_ = i <;> simp [cs_u, z_] <;> (try subst z_) <;> omega), hI.2.2.2.2.2.1, hI.2.2.2.2.2.2⟩, hP, hF, (cs_Z_u (hZ) (by decide) (fun _ _ => by first | omega | (show ((_ : Nat) : Int) < S 0 0 0; omega))), hY, (fun i_ h1 => by have q := hX i_ h1; have q1 : S 14 i_ 0 = 1 := h1; by_cases z_ : i_ = i; (subst z_; omega); (simp [cs_u, z_]; exact q)), hN, hE, (cs_C_c (S := S) rfl hC)⟩
  · exact K
theorem K_follows {S : cs_S} (K : cs_K S) (a b : Int) : cs_K (op_follows S a b) := by
  unfold op_follows
  split
  · rename_i hq
    obtain ⟨hI, hP, hF, hZ, hY, hX, hN, hE, hC⟩ := K
    have hI1 := hI.1
    obtain ⟨i, rfl⟩ : ∃ i : Nat, a = (i : Int) := ⟨a.toNat, by omega⟩
    obtain ⟨k, rfl⟩ : ∃ k : Nat, b = (k : Int) := ⟨b.toNat, by omega⟩
    simp only [cs_nn] at hq ⊢
    exact ⟨⟨hI.1, hI.2.1, hI.2.2.1, hI.2.2.2.1, (fun i_ => by have q := hI.2.2.2.2.1 i_; by_cases z_ : i_ = i <;> simp [cs_u, z_] <;> (try subst z_) <;> omega), hI.2.2.2.2.2.1, hI.2.2.2.2.2.2⟩, hP, (fun i_ h1 h2 => by by_cases z_ : i_ = i; (subst z_; refine Or.inr ⟨k, ?_, (show (k : Int) < S 0 0 0 by omega), fun z => by rw [z] at hq; omega⟩; simp [cs_u]); (have q := hF i_ h1 h2; simp [cs_u, z_]; exact q)), (cs_Z_u (hZ) (by decide) (fun _ _ => by first | omega | (show ((_ : Nat) : Int) < S 0 0 0; omega))), hY, hX, hN, hE, (cs_C_c (S := S) rfl hC)⟩
  · exact K
theorem K_holder {S : cs_S} (K : cs_K S) (a : Int) : cs_K (op_holder S a) := by
  unfold op_holder
  split
  · rename_i hq
    obtain ⟨hI, hP, hF, hZ, hY, hX, hN, hE, hC⟩ := K
    have hI1 := hI.1
    obtain ⟨n, hn⟩ : ∃ n : Nat, S 1 0 0 = (n : Int) := ⟨(S 1 0 0).toNat, by omega⟩
    rw [show (S 1 0 0).toNat = n by omega]
    exact ⟨⟨(by simp [cs_u]; omega), (fun i_ => by have q := hI.2.1 i_; by_cases z_ : i_ = n <;> simp [cs_u, z_] <;> (try subst z_) <;> omega), hI.2.2.1, hI.2.2.2.1, hI.2.2.2.2.1, hI.2.2.2.2.2.1, hI.2.2.2.2.2.2⟩, hP, hF, (cs_Z_u (cs_Z_u (cs_Z_u (hZ) (by decide) (fun _ _ => by first | omega | (show ((_ : Nat) : Int) < S 0 0 0; omega))) (by decide) (fun _ _ => by first | omega | (show ((_ : Nat) : Int) < S 0 0 0; omega))) (by decide) (fun _ _ => by first | omega | (show ((_ : Nat) : Int) < S 0 0 0; omega))), (fun i_ h_ h1 => hY i_ h_ (by have h2 : S 1 0 0 + 1 ≤ (h_ : Int) := h1; omega)), hX, hN, hE, (cs_C_c (S := S) rfl hC)⟩
  · exact K
theorem K_stock {S : cs_S} (K : cs_K S) (al : Int) : cs_K (op_stock S al) := by
  unfold op_stock
  split
  · rename_i hq
    obtain ⟨hI, hP, hF, hZ, hY, hX, hN, hE, hC⟩ := K
    have hI1 := hI.1
    obtain ⟨n, hn⟩ : ∃ n : Nat, S 0 0 0 = (n : Int) := ⟨(S 0 0 0).toNat, by omega⟩
    rw [show (S 0 0 0).toNat = n by omega]
    have hz12 := hZ 12 n 0 (by omega) (by omega) (by omega)
    have hz13 := hZ 13 n 0 (by omega) (by omega) (by omega)
    have hz14 := hZ 14 n 0 (by omega) (by omega) (by omega)
    exact ⟨⟨(by simp [cs_u]; omega), hI.2.1, hI.2.2.1, hI.2.2.2.1, (fun i_ => by have q := hI.2.2.2.2.1 i_; by_cases z_ : i_ = n <;> simp [cs_u, z_] <;> (try subst z_) <;> omega), hI.2.2.2.2.2.1, hI.2.2.2.2.2.2⟩, hP, (fun i_ h1 h2 => by
      have h3 : (i_ : Int) < S 0 0 0 + 1 := h1
      by_cases z_ : i_ = n
      · subst z_; left; simp [cs_u]
      · rcases hF i_ (by omega) h2 with q | ⟨k, q1, q2, q3⟩
        · left; simp [cs_u, z_]; exact q
        · refine Or.inr ⟨k, ?_, ?_, q3⟩
          · simp [cs_u, z_]; exact q1
          · show (k : Int) < S 0 0 0 + 1
            omega), (fun f_ i_ j_ h1 h2 h3 => by
      have h4 : S 0 0 0 + 1 ≤ (i_ : Int) := h3
      have h5 := hZ f_ i_ j_ h1 h2 (by omega)
      simp only [cs_u]
      rw [if_neg (fun q => by have := q.1; omega), if_neg (fun q => by have := q.2.1; omega), if_neg (fun q => by have := q.2.1; omega), if_neg (fun q => by have := q.2.1; omega)]
      exact h5), hY, (fun i_ h1 => by
      have h2 : S 14 i_ 0 = 1 := h1
      by_cases z_ : i_ = n
      · subst z_; omega
      · have q := hX i_ h2; simp [cs_u, z_]; exact q), hN, hE, (cs_C_c (S := S) rfl hC)⟩
  · exact K
theorem K_land {S : cs_S} (K : cs_K S) (a b g d t : Int) : cs_K (op_land S a b g d t) := by
  unfold op_land
  split
  · rename_i hq
    unfold op_add
    split
    · rename_i hq2
      obtain ⟨hI, hP, hF, hZ, hY, hX, hN, hE, hC⟩ := K
      have hI1 := hI.1
      obtain ⟨n, hn⟩ : ∃ n : Nat, S 2 0 0 = (n : Int) := ⟨(S 2 0 0).toNat, by omega⟩
      rw [show (S 2 0 0).toNat = n by omega]
      exact ⟨⟨(by simp [cs_u]; omega), hI.2.1, (fun i_ => by have q := hI.2.2.1 i_; by_cases z_ : i_ = n <;> simp [cs_u, z_] <;> (try subst z_) <;> omega), hI.2.2.2.1, hI.2.2.2.2.1, hI.2.2.2.2.2.1, hI.2.2.2.2.2.2⟩, hP, hF, (cs_Z_u (cs_Z_u (cs_Z_u (cs_Z_u (cs_Z_u (hZ) (by decide) (fun _ _ => by first | omega | (show ((_ : Nat) : Int) < S 0 0 0; omega))) (by decide) (fun _ _ => by first | omega | (show ((_ : Nat) : Int) < S 0 0 0; omega))) (by decide) (fun _ _ => by first | omega | (show ((_ : Nat) : Int) < S 0 0 0; omega))) (by decide) (fun _ _ => by first | omega | (show ((_ : Nat) : Int) < S 0 0 0; omega))) (by decide) (fun _ _ => by first | omega | (show ((_ : Nat) : Int) < S 0 0 0; omega))), hY, hX, hN, hE, (cs_C_c (S := S) rfl hC)⟩
    · exact K
  · exact K
theorem K_owns {S : cs_S} (K : cs_K S) (a b x : Int) : cs_K (op_owns S a b x) := by
  obtain ⟨hI, hP, hF, hZ, hY, hX, hN, hE, hC⟩ := K
  have h1 := cs_P_owns hP (a := a) (b := b) (x := x)
  have h2 := cs_C_owns hI hP hC (a := a) (b := b) (x := x)
  by_cases hQ : cs_ownP S a b x
  · rw [op_owns_t hQ] at h1 h2 ⊢
    have hr := hQ.1
    exact ⟨⟨hI.1, hI.2.1, hI.2.2.1, (fun i_ j_ => by have q := hI.2.2.2.1 i_ j_; by_cases z_ : i_ = a.toNat <;> by_cases y_ : j_ = b.toNat <;> simp [cs_u, z_, y_] <;> (try subst z_) <;> (try subst y_) <;> omega), hI.2.2.2.2.1, hI.2.2.2.2.2.1, hI.2.2.2.2.2.2⟩, h1, hF, cs_Z_u hZ (by decide) (fun _ _ => by omega), hY, hX, hN, hE, h2⟩
  · rw [op_owns_f hQ]; exact ⟨hI, hP, hF, hZ, hY, hX, hN, hE, hC⟩
theorem cs_lf_s {S : cs_S} (hI : cs_I S) (i h : Nat) : cs_lf S i h ≤ S 21 i h := by
  have := (cs_told_b hI (i : Int) (h : Int) 99999 (S 2 0 0).toNat).1
  unfold cs_lf cs_left
  omega
/-- shares of one stock that change -/
theorem cs_I_21 {S T : cs_S} (hI : cs_I S) (h : ∀ f, f ≠ 21 → f ≠ 19 → f ≠ 22 → T f = S f) (h0 : ∀ i j, 0 ≤ T 21 i j) (h1 : ∀ i, cs_sum (T 21 i) 12 ≤ 2000000000) (h2 : ∀ i j, 12 ≤ j → T 21 i j ≤ 2000000000) : cs_I T := by
  have e0 := h 0 (by decide) (by decide) (by decide)
  have e1 := h 1 (by decide) (by decide) (by decide)
  have e2 := h 2 (by decide) (by decide) (by decide)
  have e3 := h 3 (by decide) (by decide) (by decide)
  have e4 := h 4 (by decide) (by decide) (by decide)
  have e5 := h 5 (by decide) (by decide) (by decide)
  have e6 := h 6 (by decide) (by decide) (by decide)
  have e7 := h 7 (by decide) (by decide) (by decide)
  have e8 := h 8 (by decide) (by decide) (by decide)
  have e9 := h 9 (by decide) (by decide) (by decide)
  have e10 := h 10 (by decide) (by decide) (by decide)
  have e11 := h 11 (by decide) (by decide) (by decide)
  have e12 := h 12 (by decide) (by decide) (by decide)
  have e13 := h 13 (by decide) (by decide) (by decide)
  have e14 := h 14 (by decide) (by decide) (by decide)
  have e15 := h 15 (by decide) (by decide) (by decide)
  have e16 := h 16 (by decide) (by decide) (by decide)
  have e17 := h 17 (by decide) (by decide) (by decide)
  have e18 := h 18 (by decide) (by decide) (by decide)
  have e20 := h 20 (by decide) (by decide) (by decide)
  obtain ⟨q1, q2, q3, q4, q5, q6, q7⟩ := hI
  unfold cs_I
  simp only [e0, e1, e2, e3, e4, e5, e6, e7, e8, e9, e10, e11, e12, e13, e14, e15, e16, e17, e18, e20]
  refine ⟨q1, q2, q3, q4, q5, fun i j => ⟨(q6 i j).1, (q6 i j).2.1, h0 i j, ?_⟩, h1⟩
  rcases (show j < 12 ∨ 12 ≤ j by omega) with z | z
  · have := cs_sum_ge (f := T 21 i) (n := 12) (k := j) (fun k _ => h0 i k) z
    have := h1 i
    omega
  · exact h2 i j z
theorem K_tr {S : cs_S} (K : cs_K S) (a b d g : Int) : cs_K (op_tr S a b d g) := by
  unfold op_tr
  split
  · rename_i hq
    obtain ⟨hI, hP, hF, hZ, hY, hX, hN, hE, hC⟩ := K
    have hI1 := hI.1
    obtain ⟨i, rfl⟩ : ∃ i : Nat, a = (i : Int) := ⟨a.toNat, by omega⟩
    obtain ⟨h, rfl⟩ : ∃ h : Nat, b = (h : Int) := ⟨b.toNat, by omega⟩
    obtain ⟨k, rfl⟩ : ∃ k : Nat, d = (k : Int) := ⟨d.toNat, by omega⟩
    simp only [cs_nn] at hq ⊢
    have hl := cs_lf_s hI i h
    have hne : k ≠ h := by omega
    have hs : ∀ j, cs_sum (cs_u (cs_u S 21 i h (S 21 i h - g)) 21 i k (S 21 i k + g) 21 j) 12 = cs_sum (S 21 j) 12 := fun j => by
      by_cases hj : j = i
      · subst hj
        rw [cs_sum_up (f := cs_u (cs_u S 21 j h (S 21 j h - g)) 21 j k (S 21 j k + g) 21 j) (g := cs_u S 21 j h (S 21 j h - g) 21 j) (b := k) (n := 12) (fun q hq => by simp [cs_u, hq]) (by omega), cs_sum_up (f := cs_u S 21 j h (S 21 j h - g) 21 j) (g := S 21 j) (b := h) (n := 12) (fun q hq => by simp [cs_u, hq]) (by omega)]
        simp [cs_u, hne]
        omega
      · exact cs_sum_c (fun q _ => by simp [cs_u, hj])
    have h0 : ∀ x y, 0 ≤ cs_u (cs_u S 21 i h (S 21 i h - g)) 21 i k (S 21 i k + g) 21 x y := fun x y => by
      have q := hI.2.2.2.2.2.1 x y
      by_cases z1 : x = i <;> by_cases z2 : y = k <;> by_cases z3 : y = h <;> simp [cs_u, z1, z2, z3, hne] <;> (try subst z1) <;> (try subst z2) <;> (try subst z3) <;> (try simp [hne]) <;> omega
    refine ⟨cs_I_21 hI (fun f h1 _ _ => by funext x y; simp [cs_u, h1]) h0 (fun j => by rw [hs j]; exact hI.2.2.2.2.2.2 j) (fun x y hy => ?_), hP, hF, (cs_Z_u (cs_Z_u (hZ) (by decide) (fun _ _ => by first | omega | (show ((_ : Nat) : Int) < S 0 0 0; omega))) (by decide) (fun _ _ => by first | omega | (show ((_ : Nat) : Int) < S 0 0 0; omega))), cs_Y_u (cs_Y_u hY (by decide) (fun _ => by omega)) (by decide) (fun _ => by show (k : Int) < S 1 0 0; omega), hX, cs_N0_u (cs_N0_u hN (by decide) (fun _ => by omega)) (by decide) (fun _ => by show S 14 i 0 = 1; omega), hE, cs_C_c (S := S) rfl hC⟩
    have q := hI.2.2.2.2.2.1 x y
    simp [cs_u, show ¬ y = k by omega, show ¬ y = h by omega]
    omega
  · exact K
theorem K_sw {S : cs_S} (K : cs_K S) (a b x y d g : Int) : cs_K (op_sw S a b x y d g) := by
  unfold op_sw
  split
  · rename_i hq
    obtain ⟨hI, hP, hF, hZ, hY, hX, hN, hE, hC⟩ := K
    have hI1 := hI.1
    obtain ⟨i, rfl⟩ : ∃ i : Nat, a = (i : Int) := ⟨a.toNat, by omega⟩
    obtain ⟨k, rfl⟩ : ∃ k : Nat, b = (k : Int) := ⟨b.toNat, by omega⟩
    obtain ⟨h, rfl⟩ : ∃ h : Nat, d = (h : Int) := ⟨d.toNat, by omega⟩
    simp only [cs_nn] at hq ⊢
    have hl := cs_lf_s hI i h
    have hne : k ≠ i := by omega
    have hne2 : i ≠ k := by omega
    obtain ⟨c, hc⟩ : ∃ c, c = g * x / y := ⟨_, rfl⟩
    have hc0 : 0 ≤ c := by rw [hc]; exact Int.ediv_nonneg (Int.mul_nonneg (by omega) (by omega)) (by omega)
    rw [← hc] at hq ⊢
    obtain ⟨T, hT⟩ : ∃ T, T = cs_u (cs_u (op_sh (op_sh S i h (-g)) k h c) 19 i 0 (S 19 i 0 - g)) 19 k 0 (S 19 k 0 + c) := ⟨_, rfl⟩
    rw [← hT]
    have t21 : ∀ p q, T 21 p q = if p = k ∧ q = h then S 21 k h + c else if p = i ∧ q = h then S 21 i h - g else S 21 p q := fun p q => by
      rw [hT]
      by_cases z1 : p = k <;> by_cases z2 : p = i <;> by_cases z3 : q = h <;> simp [op_sh, cs_u, z1, z2, z3, hne, hne2] <;> omega
    have tf : ∀ f, f ≠ 21 → f ≠ 19 → f ≠ 22 → T f = S f := fun f h1 h2 h3 => by rw [hT]; funext x y; simp [op_sh, cs_u, h1, h2, h3]
    have t19 : ∀ p, T 19 p 0 = if p = k then S 19 k 0 + c else if p = i then S 19 i 0 - g else S 19 p 0 := fun p => by
      rw [hT]
      by_cases z1 : p = k <;> by_cases z2 : p = i <;> simp [op_sh, cs_u, z1, z2, hne, hne2]
    have t22 : ∀ p, T 22 p 0 = if p = k then S 22 k 0 + c else if p = i then S 22 i 0 - g else S 22 p 0 := fun p => by
      rw [hT]
      by_cases z1 : p = k <;> by_cases z2 : p = i <;> simp [op_sh, cs_u, z1, z2, hne, hne2] <;> omega
    have h0 : ∀ p q, 0 ≤ T 21 p q := fun p q => by
      rw [t21]
      have q1 := hI.2.2.2.2.2.1 p q
      have q2 := hI.2.2.2.2.2.1 k h
      have q3 := hI.2.2.2.2.2.1 i h
      split
      · omega
      · split <;> omega
    have hs : ∀ j, cs_sum (T 21 j) 12 ≤ 2000000000 := fun j => by
      have q0 := hI.2.2.2.2.2.2 j
      by_cases hj : j = k
      · subst hj
        rw [cs_sum_up (f := T 21 j) (g := S 21 j) (b := h) (n := 12) (fun q hq => by rw [t21, if_neg (fun z => hq z.2), if_neg (fun z => hq z.2)]) (by omega), t21, if_pos ⟨rfl, rfl⟩]
        omega
      · by_cases hj2 : j = i
        · subst hj2
          rw [cs_sum_up (f := T 21 j) (g := S 21 j) (b := h) (n := 12) (fun q hq => by rw [t21, if_neg (fun z => hq z.2), if_neg (fun z => hq z.2)]) (by omega), t21, if_neg (fun z => hj z.1), if_pos ⟨rfl, rfl⟩]
          omega
        · rw [cs_sum_c (f := T 21 j) (g := S 21 j) (fun q _ => by rw [t21, if_neg (fun z => hj z.1), if_neg (fun z => hj2 z.1)])]
          exact q0
    refine ⟨cs_I_21 hI tf h0 hs (fun p q hy => ?_), ?_, ?_, ?_, ?_, ?_, ?_, ?_, ?_⟩
    · rw [t21, if_neg (by omega), if_neg (by omega)]
      have := hI.2.2.2.2.2.1 p q
      omega
    · unfold cs_P; rw [tf 11 (by decide) (by decide) (by decide)]; exact hP
    · unfold cs_F; rw [tf 0 (by decide) (by decide) (by decide), tf 14 (by decide) (by decide) (by decide), tf 15 (by decide) (by decide) (by decide)]; exact hF
    · rw [hT]; unfold op_sh
      exact cs_Z_u (cs_Z_u (cs_Z_u (cs_Z_u (cs_Z_u (cs_Z_u hZ (by decide) (fun _ _ => by omega)) (by decide) (fun _ _ => by show (i : Int) < S 0 0 0; omega)) (by decide) (fun _ _ => by show (k : Int) < S 0 0 0; omega)) (by decide) (fun _ _ => by show (k : Int) < S 0 0 0; omega)) (by decide) (fun _ _ => by show (i : Int) < S 0 0 0; omega)) (by decide) (fun _ _ => by show (k : Int) < S 0 0 0; omega)
    · intro p q hpq
      rw [tf 1 (by decide) (by decide) (by decide)] at hpq
      rw [tf 20 (by decide) (by decide) (by decide), t21, if_neg (by omega), if_neg (by omega)]
      exact hY p q hpq
    · intro p hp
      rw [tf 14 (by decide) (by decide) (by decide)] at hp
      rw [tf 12 (by decide) (by decide) (by decide), tf 13 (by decide) (by decide) (by decide), t19, t22]
      have q := hX p hp
      split
      · rename_i z; subst z; omega
      · split
        · rename_i z; subst z; omega
        · exact q
    · intro p q hp
      rw [tf 14 (by decide) (by decide) (by decide)] at hp
      have q0 := hN p q hp
      rw [t21, if_neg (fun z => by obtain ⟨rfl, rfl⟩ := z; omega), if_neg (fun z => by obtain ⟨rfl, rfl⟩ := z; omega)]
      exact q0
    · intro p hp
      rw [tf 14 (by decide) (by decide) (by decide)] at hp
      have q0 := hE p hp
      rw [t19, if_neg (fun z => by rw [z] at hp; omega), if_neg (fun z => by rw [z] at hp; omega)]
      exact q0
    · exact cs_C_c (tf 11 (by decide) (by decide) (by decide)) hC
  · exact K
theorem K_0 : cs_K cs_0 := by
  refine ⟨?_, ?_, ?_, ?_, ?_, ?_, ?_, ?_, ?_⟩
  · refine ⟨by decide, fun _ => by simp [cs_0], fun _ => by simp [cs_0], fun _ _ => by simp [cs_0], fun _ => by simp [cs_0], fun _ _ => by simp [cs_0], fun i => ?_⟩
    have h := cs_sum_z (f := cs_0 21 i) (n := 0) (k := 12) (fun _ _ => rfl)
    rw [Nat.zero_add] at h
    rw [h]; show (0 : Int) ≤ _; decide
  · intro j
    have h := cs_sum_z (f := fun q => cs_0 11 q j) (n := 0) (k := 10) (fun _ _ => rfl)
    rw [Nat.zero_add] at h
    rw [h]; show (0 : Int) ≤ _; decide
  · intro i hi
    exfalso
    have h2 : (i : Int) < 0 := hi
    omega
  · intro f i j h1 h2 _
    simp [cs_0, show ¬ f = 3 by omega, show ¬ f = 4 by omega]
  · exact fun i h _ => ⟨rfl, rfl⟩
  · intro i h
    exact absurd (show (0 : Int) = 1 from h) (by decide)
  · exact fun _ _ _ => rfl
  · exact fun _ _ => rfl
  · intro a b h
    exact absurd (show (0 : Int) < 0 from h) (by decide)
