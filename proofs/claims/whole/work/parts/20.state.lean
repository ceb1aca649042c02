/-! THE STATE: S f i j. f: 0 stocks, 1 holders, 2 landings, 3 and 4 the penalty, 5 a holder's owner, 6 its pool, 7 8 9 10 a landing's stock, holder, grams, day told, 11 parts (of owner i in owner j), 12 allowed, 13 aside, 14 parted, 15 followed, 16 cap, 17 kept, 18 thrown, 19 what came beside the whole (the reference's), 20 weights, 21 shares, 22 what shares should come to (the class's) -/
abbrev cs_S : Type := Nat → Nat → Nat → Int
def cs_u (S : cs_S) (f i j : Nat) (v : Int) : cs_S := fun f' i' j' => if f' = f ∧ i' = i ∧ j' = j then v else S f' i' j'
def cs_sum (f : Nat → Int) : Nat → Int
  | 0 => 0
  | n + 1 => cs_sum f n + f n
theorem cs_sum_s (f : Nat → Int) (n : Nat) : cs_sum f (n + 1) = cs_sum f n + f n := rfl
theorem cs_sum_c {f g : Nat → Int} {n : Nat} (h : ∀ k, k < n → f k = g k) : cs_sum f n = cs_sum g n := by
  induction n with
  | zero => rfl
  | succ n ih => rw [cs_sum_s, cs_sum_s, ih (fun k hk => h k (by omega)), h n (by omega)]
theorem cs_sum_b {f : Nat → Int} {a b : Int} {n : Nat} (h : ∀ k, k < n → a ≤ f k ∧ f k ≤ b) : a * n ≤ cs_sum f n ∧ cs_sum f n ≤ b * n := by
  induction n with
  | zero => simp [cs_sum]
  | succ n ih =>
    have h1 := ih (fun k hk => h k (by omega))
    have h2 := h n (by omega)
    rw [cs_sum_s, Int.natCast_succ, Int.mul_add, Int.mul_add]
    omega
/-- the cells of the class -/
def wC (u : cx_U) (ad : Nat → Nat → Nat) (S : cs_S) (sc : Nat → Nat → Int) : cx_W := fun k i => match k with
  | 0 => if i = 0 then some (ad 0 0, .inr (3, [.ref (ad 1 0), .int (jI (S 0 0 0)), .ref (ad 2 0), .ref (ad 3 0), .int (jI (S 1 0 0)), .ref (ad 4 0), .ref (ad 9 0), .int (jI (S 3 0 0)), .int (jI (S 4 0 0))])) else none
  | 1 => if i = 0 then some (ad 1 0, .inl (u.2 3, 8, .inr (.inr (.inr (.inr (fun x => if (x : Int) < S 0 0 0 then some (ad 14 x) else none)))))) else none
  | 2 => if i = 0 then some (ad 2 0, .inl (u.2 0, 12, .inl (fun x => jI (S 5 x 0)))) else none
  | 3 => if i = 0 then some (ad 3 0, .inl (u.2 0, 12, .inl (fun x => jI (S 6 x 0)))) else none
  | 4 => if i = 0 then some (ad 4 0, .inr (0, [.ref (ad 5 0), .ref (ad 6 0), .ref (ad 7 0), .ref (ad 8 0), .int (jI (S 2 0 0))])) else none
  | 5 => if i = 0 then some (ad 5 0, .inl (u.2 0, 200, .inl (fun x => jI (S 7 x 0)))) else none
  | 6 => if i = 0 then some (ad 6 0, .inl (u.2 0, 200, .inl (fun x => jI (S 8 x 0)))) else none
  | 7 => if i = 0 then some (ad 7 0, .inl (u.2 1, 200, .inr (.inl (fun x => jL (S 9 x 0))))) else none
  | 8 => if i = 0 then some (ad 8 0, .inl (u.2 0, 200, .inl (fun x => jI (S 10 x 0)))) else none
  | 9 => if i = 0 then some (ad 9 0, .inr (1, [.ref (ad 10 0), .ref (ad 11 0), .ref (ad 12 0), .ref (ad 13 0)])) else none
  | 10 => if i = 0 then some (ad 10 0, .inl (u.2 0, 100, .inl (fun x => jI (S 11 (x / 10) (x % 10))))) else none
  | 11 => if i = 0 then some (ad 11 0, .inl (u.2 1, 10, .inr (.inl (fun x => jL (sc 0 x))))) else none
  | 12 => if i = 0 then some (ad 12 0, .inl (u.2 1, 10, .inr (.inl (fun x => jL (sc 1 x))))) else none
  | 13 => if i = 0 then some (ad 13 0, .inl (u.2 1, 10, .inr (.inl (fun x => jL (sc 2 x))))) else none
  | 14 => if (i : Int) < S 0 0 0 then some (ad 14 i, .inr (2, [.int (jI (i : Int)), .long (jL (S 12 i 0)), .ref (ad 15 i), .ref (ad 16 i), .long (jL (S 13 i 0)), .int (jI (S 14 i 0)), .int (jI (S 15 i 0)), .int (jI (S 16 i 0)), .long (jL (S 17 i 0)), .long (jL (S 18 i 0)), .long (jL (S 22 i 0))])) else none
  | 15 => if (i : Int) < S 0 0 0 then some (ad 15 i, .inl (u.2 1, 12, .inr (.inl (fun x => jL (S 20 i x))))) else none
  | 16 => if (i : Int) < S 0 0 0 then some (ad 16 i, .inl (u.2 1, 12, .inr (.inl (fun x => jL (S 21 i x))))) else none
  | _ => none
theorem wC_0 (u : cx_U) (ad : Nat → Nat → Nat) (S : cs_S) (sc : Nat → Nat → Int) : wC u ad S sc 0 0 = some (ad 0 0, .inr (3, [.ref (ad 1 0), .int (jI (S 0 0 0)), .ref (ad 2 0), .ref (ad 3 0), .int (jI (S 1 0 0)), .ref (ad 4 0), .ref (ad 9 0), .int (jI (S 3 0 0)), .int (jI (S 4 0 0))])) := rfl
theorem wC_1 (u : cx_U) (ad : Nat → Nat → Nat) (S : cs_S) (sc : Nat → Nat → Int) : wC u ad S sc 1 0 = some (ad 1 0, .inl (u.2 3, 8, .inr (.inr (.inr (.inr (fun x => if (x : Int) < S 0 0 0 then some (ad 14 x) else none)))))) := rfl
theorem wC_2 (u : cx_U) (ad : Nat → Nat → Nat) (S : cs_S) (sc : Nat → Nat → Int) : wC u ad S sc 2 0 = some (ad 2 0, .inl (u.2 0, 12, .inl (fun x => jI (S 5 x 0)))) := rfl
theorem wC_3 (u : cx_U) (ad : Nat → Nat → Nat) (S : cs_S) (sc : Nat → Nat → Int) : wC u ad S sc 3 0 = some (ad 3 0, .inl (u.2 0, 12, .inl (fun x => jI (S 6 x 0)))) := rfl
theorem wC_4 (u : cx_U) (ad : Nat → Nat → Nat) (S : cs_S) (sc : Nat → Nat → Int) : wC u ad S sc 4 0 = some (ad 4 0, .inr (0, [.ref (ad 5 0), .ref (ad 6 0), .ref (ad 7 0), .ref (ad 8 0), .int (jI (S 2 0 0))])) := rfl
theorem wC_5 (u : cx_U) (ad : Nat → Nat → Nat) (S : cs_S) (sc : Nat → Nat → Int) : wC u ad S sc 5 0 = some (ad 5 0, .inl (u.2 0, 200, .inl (fun x => jI (S 7 x 0)))) := rfl
theorem wC_6 (u : cx_U) (ad : Nat → Nat → Nat) (S : cs_S) (sc : Nat → Nat → Int) : wC u ad S sc 6 0 = some (ad 6 0, .inl (u.2 0, 200, .inl (fun x => jI (S 8 x 0)))) := rfl
theorem wC_7 (u : cx_U) (ad : Nat → Nat → Nat) (S : cs_S) (sc : Nat → Nat → Int) : wC u ad S sc 7 0 = some (ad 7 0, .inl (u.2 1, 200, .inr (.inl (fun x => jL (S 9 x 0))))) := rfl
theorem wC_8 (u : cx_U) (ad : Nat → Nat → Nat) (S : cs_S) (sc : Nat → Nat → Int) : wC u ad S sc 8 0 = some (ad 8 0, .inl (u.2 0, 200, .inl (fun x => jI (S 10 x 0)))) := rfl
theorem wC_9 (u : cx_U) (ad : Nat → Nat → Nat) (S : cs_S) (sc : Nat → Nat → Int) : wC u ad S sc 9 0 = some (ad 9 0, .inr (1, [.ref (ad 10 0), .ref (ad 11 0), .ref (ad 12 0), .ref (ad 13 0)])) := rfl
theorem wC_10 (u : cx_U) (ad : Nat → Nat → Nat) (S : cs_S) (sc : Nat → Nat → Int) : wC u ad S sc 10 0 = some (ad 10 0, .inl (u.2 0, 100, .inl (fun x => jI (S 11 (x / 10) (x % 10))))) := rfl
theorem wC_11 (u : cx_U) (ad : Nat → Nat → Nat) (S : cs_S) (sc : Nat → Nat → Int) : wC u ad S sc 11 0 = some (ad 11 0, .inl (u.2 1, 10, .inr (.inl (fun x => jL (sc 0 x))))) := rfl
theorem wC_12 (u : cx_U) (ad : Nat → Nat → Nat) (S : cs_S) (sc : Nat → Nat → Int) : wC u ad S sc 12 0 = some (ad 12 0, .inl (u.2 1, 10, .inr (.inl (fun x => jL (sc 1 x))))) := rfl
theorem wC_13 (u : cx_U) (ad : Nat → Nat → Nat) (S : cs_S) (sc : Nat → Nat → Int) : wC u ad S sc 13 0 = some (ad 13 0, .inl (u.2 1, 10, .inr (.inl (fun x => jL (sc 2 x))))) := rfl
theorem wC_14 (u : cx_U) (ad : Nat → Nat → Nat) (S : cs_S) (sc : Nat → Nat → Int) {i : Nat} (h : (i : Int) < S 0 0 0) : wC u ad S sc 14 i = some (ad 14 i, .inr (2, [.int (jI (i : Int)), .long (jL (S 12 i 0)), .ref (ad 15 i), .ref (ad 16 i), .long (jL (S 13 i 0)), .int (jI (S 14 i 0)), .int (jI (S 15 i 0)), .int (jI (S 16 i 0)), .long (jL (S 17 i 0)), .long (jL (S 18 i 0)), .long (jL (S 22 i 0))])) := if_pos h
theorem wC_15 (u : cx_U) (ad : Nat → Nat → Nat) (S : cs_S) (sc : Nat → Nat → Int) {i : Nat} (h : (i : Int) < S 0 0 0) : wC u ad S sc 15 i = some (ad 15 i, .inl (u.2 1, 12, .inr (.inl (fun x => jL (S 20 i x))))) := if_pos h
theorem wC_16 (u : cx_U) (ad : Nat → Nat → Nat) (S : cs_S) (sc : Nat → Nat → Int) {i : Nat} (h : (i : Int) < S 0 0 0) : wC u ad S sc 16 i = some (ad 16 i, .inl (u.2 1, 12, .inr (.inl (fun x => jL (S 21 i x))))) := if_pos h
/-- the cells of the reference -/
def wM (u : cx_U) (ad : Nat → Nat → Nat) (S : cs_S) (sc : Nat → Nat → Int) : cx_W := fun k i => match k with
  | 20 => if i = 0 then some (ad 20 0, .inr (4, [.int (jI (S 0 0 0)), .ref (ad 21 0), .ref (ad 22 0), .ref (ad 23 0), .ref (ad 24 0), .ref (ad 25 0), .ref (ad 26 0), .ref (ad 27 0), .ref (ad 28 0), .int (jI (S 1 0 0)), .ref (ad 29 0), .ref (ad 30 0), .ref (ad 31 0), .ref (ad 32 0), .ref (ad 33 0), .int (jI (S 2 0 0)), .ref (ad 34 0), .ref (ad 35 0), .ref (ad 36 0), .int (jI (S 3 0 0)), .int (jI (S 4 0 0)), .ref (ad 37 0), .ref (ad 38 0), .ref (ad 39 0), .ref (ad 40 0)])) else none
  | 21 => if i = 0 then some (ad 21 0, .inl (u.2 1, 8, .inr (.inl (fun x => jL (S 12 x 0))))) else none
  | 22 => if i = 0 then some (ad 22 0, .inl (u.2 1, 8, .inr (.inl (fun x => jL (S 13 x 0))))) else none
  | 23 => if i = 0 then some (ad 23 0, .inl (u.2 0, 8, .inl (fun x => jI (S 15 x 0)))) else none
  | 24 => if i = 0 then some (ad 24 0, .inl (u.2 2, 8, .inl (fun x => jI (S 14 x 0)))) else none
  | 25 => if i = 0 then some (ad 25 0, .inl (u.2 0, 8, .inl (fun x => jI (S 16 x 0)))) else none
  | 26 => if i = 0 then some (ad 26 0, .inl (u.2 1, 8, .inr (.inl (fun x => jL (S 19 x 0))))) else none
  | 27 => if i = 0 then some (ad 27 0, .inl (u.2 1, 8, .inr (.inl (fun x => jL (S 17 x 0))))) else none
  | 28 => if i = 0 then some (ad 28 0, .inl (u.2 1, 8, .inr (.inl (fun x => jL (S 18 x 0))))) else none
  | 29 => if i = 0 then some (ad 29 0, .inl (u.2 0, 12, .inl (fun x => jI (S 5 x 0)))) else none
  | 30 => if i = 0 then some (ad 30 0, .inl (u.2 0, 12, .inl (fun x => jI (S 6 x 0)))) else none
  | 31 => if i = 0 then some (ad 31 0, .inl (u.2 1, 96, .inr (.inl (fun x => jL (S 20 (x / 12) (x % 12)))))) else none
  | 32 => if i = 0 then some (ad 32 0, .inl (u.2 1, 96, .inr (.inl (fun x => jL (S 21 (x / 12) (x % 12)))))) else none
  | 33 => if i = 0 then some (ad 33 0, .inl (u.2 1, 12, .inr (.inl (fun x => jL (sc 0 x))))) else none
  | 34 => if i = 0 then some (ad 34 0, .inl (u.2 0, 200, .inl (fun x => jI (12 * S 7 x 0 + S 8 x 0)))) else none
  | 35 => if i = 0 then some (ad 35 0, .inl (u.2 1, 200, .inr (.inl (fun x => jL (S 9 x 0))))) else none
  | 36 => if i = 0 then some (ad 36 0, .inl (u.2 0, 200, .inl (fun x => jI (S 10 x 0)))) else none
  | 37 => if i = 0 then some (ad 37 0, .inl (u.2 0, 100, .inl (fun x => jI (S 11 (x / 10) (x % 10))))) else none
  | 38 => if i = 0 then some (ad 38 0, .inl (u.2 1, 10, .inr (.inl (fun x => jL (sc 1 x))))) else none
  | 39 => if i = 0 then some (ad 39 0, .inl (u.2 1, 10, .inr (.inl (fun x => jL (sc 2 x))))) else none
  | 40 => if i = 0 then some (ad 40 0, .inl (u.2 1, 10, .inr (.inl (fun x => jL (sc 3 x))))) else none
  | _ => none
theorem wM_20 (u : cx_U) (ad : Nat → Nat → Nat) (S : cs_S) (sc : Nat → Nat → Int) : wM u ad S sc 20 0 = some (ad 20 0, .inr (4, [.int (jI (S 0 0 0)), .ref (ad 21 0), .ref (ad 22 0), .ref (ad 23 0), .ref (ad 24 0), .ref (ad 25 0), .ref (ad 26 0), .ref (ad 27 0), .ref (ad 28 0), .int (jI (S 1 0 0)), .ref (ad 29 0), .ref (ad 30 0), .ref (ad 31 0), .ref (ad 32 0), .ref (ad 33 0), .int (jI (S 2 0 0)), .ref (ad 34 0), .ref (ad 35 0), .ref (ad 36 0), .int (jI (S 3 0 0)), .int (jI (S 4 0 0)), .ref (ad 37 0), .ref (ad 38 0), .ref (ad 39 0), .ref (ad 40 0)])) := rfl
theorem wM_21 (u : cx_U) (ad : Nat → Nat → Nat) (S : cs_S) (sc : Nat → Nat → Int) : wM u ad S sc 21 0 = some (ad 21 0, .inl (u.2 1, 8, .inr (.inl (fun x => jL (S 12 x 0))))) := rfl
theorem wM_22 (u : cx_U) (ad : Nat → Nat → Nat) (S : cs_S) (sc : Nat → Nat → Int) : wM u ad S sc 22 0 = some (ad 22 0, .inl (u.2 1, 8, .inr (.inl (fun x => jL (S 13 x 0))))) := rfl
theorem wM_23 (u : cx_U) (ad : Nat → Nat → Nat) (S : cs_S) (sc : Nat → Nat → Int) : wM u ad S sc 23 0 = some (ad 23 0, .inl (u.2 0, 8, .inl (fun x => jI (S 15 x 0)))) := rfl
theorem wM_24 (u : cx_U) (ad : Nat → Nat → Nat) (S : cs_S) (sc : Nat → Nat → Int) : wM u ad S sc 24 0 = some (ad 24 0, .inl (u.2 2, 8, .inl (fun x => jI (S 14 x 0)))) := rfl
theorem wM_25 (u : cx_U) (ad : Nat → Nat → Nat) (S : cs_S) (sc : Nat → Nat → Int) : wM u ad S sc 25 0 = some (ad 25 0, .inl (u.2 0, 8, .inl (fun x => jI (S 16 x 0)))) := rfl
theorem wM_26 (u : cx_U) (ad : Nat → Nat → Nat) (S : cs_S) (sc : Nat → Nat → Int) : wM u ad S sc 26 0 = some (ad 26 0, .inl (u.2 1, 8, .inr (.inl (fun x => jL (S 19 x 0))))) := rfl
theorem wM_27 (u : cx_U) (ad : Nat → Nat → Nat) (S : cs_S) (sc : Nat → Nat → Int) : wM u ad S sc 27 0 = some (ad 27 0, .inl (u.2 1, 8, .inr (.inl (fun x => jL (S 17 x 0))))) := rfl
theorem wM_28 (u : cx_U) (ad : Nat → Nat → Nat) (S : cs_S) (sc : Nat → Nat → Int) : wM u ad S sc 28 0 = some (ad 28 0, .inl (u.2 1, 8, .inr (.inl (fun x => jL (S 18 x 0))))) := rfl
theorem wM_29 (u : cx_U) (ad : Nat → Nat → Nat) (S : cs_S) (sc : Nat → Nat → Int) : wM u ad S sc 29 0 = some (ad 29 0, .inl (u.2 0, 12, .inl (fun x => jI (S 5 x 0)))) := rfl
theorem wM_30 (u : cx_U) (ad : Nat → Nat → Nat) (S : cs_S) (sc : Nat → Nat → Int) : wM u ad S sc 30 0 = some (ad 30 0, .inl (u.2 0, 12, .inl (fun x => jI (S 6 x 0)))) := rfl
theorem wM_31 (u : cx_U) (ad : Nat → Nat → Nat) (S : cs_S) (sc : Nat → Nat → Int) : wM u ad S sc 31 0 = some (ad 31 0, .inl (u.2 1, 96, .inr (.inl (fun x => jL (S 20 (x / 12) (x % 12)))))) := rfl
theorem wM_32 (u : cx_U) (ad : Nat → Nat → Nat) (S : cs_S) (sc : Nat → Nat → Int) : wM u ad S sc 32 0 = some (ad 32 0, .inl (u.2 1, 96, .inr (.inl (fun x => jL (S 21 (x / 12) (x % 12)))))) := rfl
theorem wM_33 (u : cx_U) (ad : Nat → Nat → Nat) (S : cs_S) (sc : Nat → Nat → Int) : wM u ad S sc 33 0 = some (ad 33 0, .inl (u.2 1, 12, .inr (.inl (fun x => jL (sc 0 x))))) := rfl
theorem wM_34 (u : cx_U) (ad : Nat → Nat → Nat) (S : cs_S) (sc : Nat → Nat → Int) : wM u ad S sc 34 0 = some (ad 34 0, .inl (u.2 0, 200, .inl (fun x => jI (12 * S 7 x 0 + S 8 x 0)))) := rfl
theorem wM_35 (u : cx_U) (ad : Nat → Nat → Nat) (S : cs_S) (sc : Nat → Nat → Int) : wM u ad S sc 35 0 = some (ad 35 0, .inl (u.2 1, 200, .inr (.inl (fun x => jL (S 9 x 0))))) := rfl
theorem wM_36 (u : cx_U) (ad : Nat → Nat → Nat) (S : cs_S) (sc : Nat → Nat → Int) : wM u ad S sc 36 0 = some (ad 36 0, .inl (u.2 0, 200, .inl (fun x => jI (S 10 x 0)))) := rfl
theorem wM_37 (u : cx_U) (ad : Nat → Nat → Nat) (S : cs_S) (sc : Nat → Nat → Int) : wM u ad S sc 37 0 = some (ad 37 0, .inl (u.2 0, 100, .inl (fun x => jI (S 11 (x / 10) (x % 10))))) := rfl
theorem wM_38 (u : cx_U) (ad : Nat → Nat → Nat) (S : cs_S) (sc : Nat → Nat → Int) : wM u ad S sc 38 0 = some (ad 38 0, .inl (u.2 1, 10, .inr (.inl (fun x => jL (sc 1 x))))) := rfl
theorem wM_39 (u : cx_U) (ad : Nat → Nat → Nat) (S : cs_S) (sc : Nat → Nat → Int) : wM u ad S sc 39 0 = some (ad 39 0, .inl (u.2 1, 10, .inr (.inl (fun x => jL (sc 2 x))))) := rfl
theorem wM_40 (u : cx_U) (ad : Nat → Nat → Nat) (S : cs_S) (sc : Nat → Nat → Int) : wM u ad S sc 40 0 = some (ad 40 0, .inl (u.2 1, 10, .inr (.inl (fun x => jL (sc 3 x))))) := rfl
/-- what holds of every state that a run of calls comes to -/
def cs_I (S : cs_S) : Prop :=
  (0 ≤ S 0 0 0 ∧ S 0 0 0 ≤ 8 ∧ 0 ≤ S 1 0 0 ∧ S 1 0 0 ≤ 12 ∧ 0 ≤ S 2 0 0 ∧ S 2 0 0 ≤ 200 ∧ 1 ≤ S 3 0 0 ∧ S 3 0 0 ≤ 1000 ∧ 1 ≤ S 4 0 0 ∧ S 4 0 0 ≤ 1000) ∧
  (∀ h : Nat, 0 ≤ S 5 h 0 ∧ S 5 h 0 ≤ 9 ∧ -1 ≤ S 6 h 0 ∧ S 6 h 0 ≤ 3) ∧
  (∀ k : Nat, 0 ≤ S 7 k 0 ∧ S 7 k 0 ≤ 7 ∧ 0 ≤ S 8 k 0 ∧ S 8 k 0 ≤ 11 ∧ 0 ≤ S 9 k 0 ∧ S 9 k 0 ≤ 1000000000 ∧ 0 ≤ S 10 k 0 ∧ S 10 k 0 ≤ 99999) ∧
  (∀ i j : Nat, 0 ≤ S 11 i j ∧ S 11 i j ≤ 100) ∧
  (∀ i : Nat, 0 ≤ S 12 i 0 ∧ S 12 i 0 ≤ 1000000000 ∧ 0 ≤ S 13 i 0 ∧ S 13 i 0 ≤ S 12 i 0 ∧ 0 ≤ S 14 i 0 ∧ S 14 i 0 ≤ 1 ∧ -1 ≤ S 15 i 0 ∧ S 15 i 0 ≤ 7 ∧ 0 ≤ S 16 i 0 ∧ S 16 i 0 ≤ 100 ∧ 0 ≤ S 17 i 0 ∧ S 17 i 0 ≤ 1000000 ∧ 0 ≤ S 18 i 0 ∧ S 18 i 0 ≤ 1000000) ∧
  (∀ i h : Nat, 0 ≤ S 20 i h ∧ S 20 i h ≤ 1000000 ∧ 0 ≤ S 21 i h ∧ S 21 i h ≤ 2000000000) ∧
  (∀ i : Nat, cs_sum (S 21 i) 12 ≤ 2000000000)
