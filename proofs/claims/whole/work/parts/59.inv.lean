/-! what holds of every state that a run of calls comes to -/
def cs_E0 (S : cs_S) : Prop := ∀ i : Nat, S 14 i 0 = 0 → S 19 i 0 = 0
/-- no way through the owners comes back -/
def cs_C (S : cs_S) : Prop := ∀ a b : Nat, 0 < S 11 a b → a < 10 ∧ b < 10 ∧ ∀ n, ¬ cs_rs S (b : Int) n a
theorem cs_sum_add (f g : Nat → Int) (n : Nat) : cs_sum (fun k => f k + g k) n = cs_sum f n + cs_sum g n := by
  induction n with
  | zero => rfl
  | succ n ih => rw [cs_sum_s, cs_sum_s, cs_sum_s, ih]; omega
theorem cs_hold_sp (S : cs_S) (o : Int) (n j : Nat) : cs_hold S o (n + 1) j = cs_way S o 0 j + cs_sum (fun q => cs_sum (fun l => cs_way S o l q / 100) (n + 1) * S 11 q j) 10 := by
  induction n with
  | zero =>
    show cs_way S o 0 j + cs_sum (fun q => cs_way S o 0 q / 100 * S 11 q j) 10 = _
    congr 1
    refine cs_sum_c (fun q _ => ?_)
    show _ = (0 + cs_way S o 0 q / 100) * S 11 q j
    rw [Int.zero_add]
  | succ n ih =>
    have h1 : cs_hold S o (n + 1 + 1) j = cs_hold S o (n + 1) j + cs_sum (fun q => cs_way S o (n + 1) q / 100 * S 11 q j) 10 := rfl
    rw [h1, ih, Int.add_assoc, ← cs_sum_add]
    congr 1
    refine cs_sum_c (fun q _ => ?_)
    rw [cs_sum_s (fun l => cs_way S o l q / 100) (n + 1), Int.add_mul]
theorem cs_hold_g (S : cs_S) (o : Int) (n q : Nat) : 100 * cs_sum (fun l => cs_way S o l q / 100) (n + 1) ≤ cs_hold S o n q := by
  induction n with
  | zero =>
    have h1 : cs_sum (fun l => cs_way S o l q / 100) (0 + 1) = 0 + cs_way S o 0 q / 100 := rfl
    have h2 : cs_hold S o 0 q = cs_way S o 0 q := rfl
    rw [h1, h2]; omega
  | succ n ih =>
    have h2 : cs_hold S o (n + 1) q = cs_hold S o n q + cs_way S o (n + 1) q := rfl
    rw [cs_sum_s (fun l => cs_way S o l q / 100) (n + 1), h2]; omega
theorem cs_H_of {S : cs_S} (hI : cs_I S) (hP : cs_P S) (hC : cs_C S) : cs_H S := by
  intro o
  have key : ∀ n j, cs_hold S o n j ≤ 1000000000000000000 := by
    intro n
    induction n with
    | zero =>
      intro j
      show (if (j : Int) = o then (1000000000000000000 : Int) else 0) ≤ 1000000000000000000
      split <;> omega
    | succ n ih =>
      intro j
      have hg : ∀ q, 0 ≤ cs_sum (fun l => cs_way S o l q / 100) (n + 1) ∧ cs_sum (fun l => cs_way S o l q / 100) (n + 1) ≤ 10000000000000000 := fun q => by
        have h1 := cs_hold_g S o n q
        have h2 := ih q
        have h3 := cs_sum_nn (f := fun l => cs_way S o l q / 100) (n := n + 1) (fun l _ => by
          have := (cs_way_b hI hP o l q).1
          show 0 ≤ cs_way S o l q / 100
          omega)
        omega
      have h4 := (cs_sum_m (a := fun q => cs_sum (fun l => cs_way S o l q / 100) (n + 1)) (p := fun q => S 11 q j) (c := 10000000000000000) (n := 10) (fun q _ => ⟨(hg q).1, (hg q).2, (hI.2.2.2.1 q j).1⟩)).2
      have h5 := hP j
      have h6 := cs_hold_sp S o n j
      have h8 : cs_way S o 0 j = (if (j : Int) = o then (1000000000000000000 : Int) else 0) := rfl
      rw [h6, h8]
      by_cases hjo : (j : Int) = o
      · rw [if_pos hjo]
        have h7 : cs_sum (fun q => cs_sum (fun l => cs_way S o l q / 100) (n + 1) * S 11 q j) 10 = cs_sum (fun _ => 0) 10 := cs_sum_c (fun q _ => by
          show cs_sum (fun l => cs_way S o l q / 100) (n + 1) * S 11 q j = 0
          rcases (show S 11 q j = 0 ∨ 0 < S 11 q j by have := (hI.2.2.2.1 q j).1; omega) with z | z
          · rw [z, Int.mul_zero]
          · have z1 := (hC q j z).2.2 n
            have z2 := cs_hold_g S o n q
            have z3 : ¬ 0 < cs_hold S o n q := fun y => z1 (by rw [hjo]; exact cs_hold_rs hI hP y)
            rw [show cs_sum (fun l => cs_way S o l q / 100) (n + 1) = 0 by have := (hg q).1; omega, Int.zero_mul])
        rw [h7]
        decide
      · rw [if_neg hjo]
        omega
  exact fun j => ⟨cs_hold_0 hI hP o 9 j, key 9 j⟩
theorem cs_rs_c {S T : cs_S} (h : T 11 = S 11) (o : Int) (n : Nat) : cs_rs T o n = cs_rs S o n := by
  induction n with
  | zero => rfl
  | succ n ih =>
    funext p
    show (cs_rs T o n p ∨ ∃ q, q < 10 ∧ cs_rs T o n q ∧ 0 < T 11 q p) = (cs_rs S o n p ∨ ∃ q, q < 10 ∧ cs_rs S o n q ∧ 0 < S 11 q p)
    rw [ih, h]
theorem cs_C_c {S T : cs_S} (h : T 11 = S 11) (hC : cs_C S) : cs_C T := by
  intro a b hab
  rw [h] at hab
  obtain ⟨h1, h2, h3⟩ := hC a b hab
  exact ⟨h1, h2, fun n => by rw [cs_rs_c h]; exact h3 n⟩
theorem cs_rs_tr {S : cs_S} {o : Int} {p r n m : Nat} (h1 : cs_rs S o n p) (h2 : cs_rs S (p : Int) m r) : ∃ k, cs_rs S o k r := by
  induction m generalizing r with
  | zero =>
    have h3 : (r : Int) = (p : Int) := h2
    rw [show r = p by omega]; exact ⟨n, h1⟩
  | succ m ih =>
    rcases h2 with h2 | ⟨q, hq, h3, h4⟩
    · exact ih h2
    · obtain ⟨k, hk⟩ := ih h3
      exact ⟨k + 1, Or.inr ⟨q, hq, hk, h4⟩⟩
theorem cs_rs_new {S : cs_S} {a b : Nat} {x : Int} {o : Int} {n p : Nat} (h : cs_rs (cs_u S 11 a b x) o n p) : (∃ k, cs_rs S o k p) ∨ ((∃ k, cs_rs S o k a) ∧ ∃ k, cs_rs S (b : Int) k p) := by
  induction n generalizing p with
  | zero => exact Or.inl ⟨0, h⟩
  | succ n ih =>
    rcases h with h | ⟨q, hq, h1, h2⟩
    · exact ih h
    · by_cases he : q = a ∧ p = b
      · obtain ⟨rfl, rfl⟩ := he
        rcases ih h1 with h3 | ⟨h3, -⟩
        · exact Or.inr ⟨h3, 0, rfl⟩
        · exact Or.inr ⟨h3, 0, rfl⟩
      · have h5 : 0 < S 11 q p := by
          rw [show cs_u S 11 a b x 11 q p = S 11 q p from if_neg (fun z => he ⟨z.2.1, z.2.2⟩)] at h2
          exact h2
        rcases ih h1 with ⟨k, hk⟩ | ⟨h3, k, hk⟩
        · exact Or.inl ⟨k + 1, Or.inr ⟨q, hq, hk, h5⟩⟩
        · exact Or.inr ⟨h3, k + 1, Or.inr ⟨q, hq, hk, h5⟩⟩
theorem cs_rs_sub {S : cs_S} {a b : Nat} {o : Int} {n p : Nat} (hI : cs_I S) (h : cs_rs (cs_u S 11 a b 0) o n p) : cs_rs S o n p := by
  induction n generalizing p with
  | zero => exact h
  | succ n ih =>
    rcases h with h | ⟨q, hq, h1, h2⟩
    · exact Or.inl (ih h)
    · refine Or.inr ⟨q, hq, ih h1, ?_⟩
      by_cases he : q = a ∧ p = b
      · obtain ⟨rfl, rfl⟩ := he
        rw [show cs_u S 11 q p 0 11 q p = 0 from if_pos ⟨rfl, rfl, rfl⟩] at h2
        omega
      · rw [show cs_u S 11 a b 0 11 q p = S 11 q p from if_neg (fun z => he ⟨z.2.1, z.2.2⟩)] at h2
        exact h2
theorem cs_C_owns {S : cs_S} (hI : cs_I S) (hP : cs_P S) (hC : cs_C S) {a b x : Int} : cs_C (op_owns S a b x) := by
  by_cases hQ : cs_ownP S a b x
  · rw [op_owns_t hQ]
    obtain ⟨hr, hn, -⟩ := hQ
    obtain ⟨i, rfl⟩ : ∃ i : Nat, a = (i : Int) := ⟨a.toNat, by omega⟩
    obtain ⟨j, rfl⟩ : ∃ j : Nat, b = (j : Int) := ⟨b.toNat, by omega⟩
    rw [cs_nn, cs_nn]
    rw [cs_nn] at hn
    rcases (show x = 0 ∨ 0 < x by omega) with hx | hx
    · subst hx
      intro c d hcd
      by_cases he : c = i ∧ d = j
      · obtain ⟨rfl, rfl⟩ := he
        rw [show cs_u S 11 c d 0 11 c d = 0 from if_pos ⟨rfl, rfl, rfl⟩] at hcd
        omega
      · rw [show cs_u S 11 i j 0 11 c d = S 11 c d from if_neg (fun z => he ⟨z.2.1, z.2.2⟩)] at hcd
        obtain ⟨h1, h2, h3⟩ := hC c d hcd
        exact ⟨h1, h2, fun n z => h3 n (cs_rs_sub hI z)⟩
    · have hno : ∀ n, ¬ cs_rs S (j : Int) n i := fun n z => hn ⟨hx, cs_rs_hold hI hP (by omega) (cs_rs_9 (by omega) (by omega) (by omega) z)⟩
      intro c d hcd
      by_cases he : c = i ∧ d = j
      · obtain ⟨rfl, rfl⟩ := he
        refine ⟨by omega, by omega, fun n z => ?_⟩
        rcases cs_rs_new z with ⟨k, hk⟩ | ⟨⟨k, hk⟩, -⟩
        · exact hno k hk
        · exact hno k hk
      · rw [show cs_u S 11 i j x 11 c d = S 11 c d from if_neg (fun z => he ⟨z.2.1, z.2.2⟩)] at hcd
        obtain ⟨h1, h2, h3⟩ := hC c d hcd
        refine ⟨h1, h2, fun n z => ?_⟩
        rcases cs_rs_new z with ⟨k, hk⟩ | ⟨⟨k, hk⟩, k2, hk2⟩
        · exact h3 k hk
        · have h4 : cs_rs S (j : Int) (k2 + 1) d := Or.inr ⟨c, h1, hk2, hcd⟩
          obtain ⟨k3, hk3⟩ := cs_rs_tr h4 hk
          exact hno k3 hk3
  · rw [op_owns_f hQ]; exact hC
theorem cs_P_owns {S : cs_S} (hP : cs_P S) {a b x : Int} : cs_P (op_owns S a b x) := by
  by_cases hQ : cs_ownP S a b x
  · rw [op_owns_t hQ]
    obtain ⟨hr, -, hs⟩ := hQ
    obtain ⟨i, rfl⟩ : ∃ i : Nat, a = (i : Int) := ⟨a.toNat, by omega⟩
    obtain ⟨j, rfl⟩ : ∃ j : Nat, b = (j : Int) := ⟨b.toNat, by omega⟩
    rw [cs_nn] at hs
    rw [cs_nn, cs_nn]
    intro k
    by_cases hk : k = j
    · subst hk
      have h1 := cs_sum_up (f := fun q => cs_u S 11 i k x 11 q k) (g := fun q => if (q : Int) = (i : Int) then 0 else S 11 q k) (b := i) (n := 10) (fun q hq => by
        show (if 11 = 11 ∧ q = i ∧ k = k then x else S 11 q k) = (if (q : Int) = (i : Int) then 0 else S 11 q k)
        rw [if_neg (fun z => hq z.2.1), if_neg (by omega)]) (by omega)
      have h2 : cs_u S 11 i k x 11 i k = x := if_pos ⟨rfl, rfl, rfl⟩
      have h3 : cs_oth S (i : Int) k 10 = cs_sum (fun q => if (q : Int) = (i : Int) then 0 else S 11 q k) 10 := rfl
      simp only [h2, if_pos] at h1
      rw [h1]
      omega
    · have h1 : cs_sum (fun q => cs_u S 11 i j x 11 q k) 10 = cs_sum (fun q => S 11 q k) 10 := cs_sum_c (fun q _ => if_neg (fun z => hk z.2.2))
      rw [h1]
      exact hP k
  · rw [op_owns_f hQ]; exact hP
/-- all of it -/
def cs_K (S : cs_S) : Prop := cs_I S ∧ cs_P S ∧ cs_F S ∧ cs_Z S ∧ cs_Y S ∧ cs_X S ∧ cs_N0 S ∧ cs_E0 S ∧ cs_C S
theorem cs_Z_u {S : cs_S} (h : cs_Z S) {f i j : Nat} {v : Int} (h0 : f ≠ 0) (hf : 12 ≤ f → f ≤ 22 → (i : Int) < S 0 0 0) : cs_Z (cs_u S f i j v) := by
  intro f' i' j' h1 h2 h3
  rw [show cs_u S f i j v 0 0 0 = S 0 0 0 from if_neg (fun q => h0 q.1.symm)] at h3
  show (if f' = f ∧ i' = i ∧ j' = j then v else S f' i' j') = 0
  rw [if_neg (fun q => by
    obtain ⟨rfl, rfl, rfl⟩ := q
    have := hf h1 h2
    omega)]
  exact h f' i' j' h1 h2 h3
theorem cs_Y_u {S : cs_S} (h : cs_Y S) {f i j : Nat} {v : Int} (h0 : f ≠ 1) (hf : f = 20 ∨ f = 21 → (j : Int) < S 1 0 0) : cs_Y (cs_u S f i j v) := by
  intro i' j' h3
  rw [show cs_u S f i j v 1 0 0 = S 1 0 0 from if_neg (fun q => h0 q.1.symm)] at h3
  have h4 := h i' j' h3
  refine ⟨?_, ?_⟩
  · show (if 20 = f ∧ i' = i ∧ j' = j then v else S 20 i' j') = 0
    rw [if_neg (fun q => by
      have := hf (Or.inl q.1.symm)
      have := q.2.2
      omega)]
    exact h4.1
  · show (if 21 = f ∧ i' = i ∧ j' = j then v else S 21 i' j') = 0
    rw [if_neg (fun q => by
      have := hf (Or.inr q.1.symm)
      have := q.2.2
      omega)]
    exact h4.2
theorem cs_N0_u {S : cs_S} (h : cs_N0 S) {f i j : Nat} {v : Int} (h0 : f ≠ 14) (hf : f = 21 → S 14 i 0 = 1) : cs_N0 (cs_u S f i j v) := by
  intro i' j' h3
  rw [show cs_u S f i j v 14 i' 0 = S 14 i' 0 from if_neg (fun q => h0 q.1.symm)] at h3
  show (if 21 = f ∧ i' = i ∧ j' = j then v else S 21 i' j') = 0
  rw [if_neg (fun q => by
    have q1 := hf q.1.symm
    rw [← q.2.1] at q1
    omega)]
  exact h i' j' h3
