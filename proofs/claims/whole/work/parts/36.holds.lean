/-! HOLDS -/
def cs_P (S : cs_S) : Prop := ∀ j : Nat, cs_sum (fun q => S 11 q j) 10 ≤ 100
def cs_nx (S : cs_S) (f : Nat → Int) (j : Nat) : Int := cs_sum (fun q => f q / 100 * S 11 q j) 10
def cs_way (S : cs_S) (o : Int) : Nat → Nat → Int
  | 0 => fun j => if (j : Int) = o then 1000000000000000000 else 0
  | n + 1 => fun j => cs_nx S (cs_way S o n) j
def cs_hold (S : cs_S) (o : Int) : Nat → Nat → Int
  | 0 => fun j => cs_way S o 0 j
  | n + 1 => fun j => cs_hold S o n j + cs_way S o (n + 1) j
theorem cs_sum_m {a p : Nat → Int} {c : Int} {n : Nat} (h : ∀ k, k < n → 0 ≤ a k ∧ a k ≤ c ∧ 0 ≤ p k) : 0 ≤ cs_sum (fun q => a q * p q) n ∧ cs_sum (fun q => a q * p q) n ≤ c * cs_sum p n := by
  induction n with
  | zero => simp [cs_sum]
  | succ n ih =>
    have h1 := ih (fun k hk => h k (by omega))
    obtain ⟨h2, h3, h4⟩ := h n (by omega)
    have h5 := Int.mul_nonneg h2 h4
    have h6 := Int.mul_le_mul_of_nonneg_right h3 h4
    rw [cs_sum_s, cs_sum_s, Int.mul_add]
    omega
theorem cs_nx_b {S : cs_S} (hI : cs_I S) (hP : cs_P S) {f : Nat → Int} (hf : ∀ q, q < 10 → 0 ≤ f q ∧ f q ≤ 1000000000000000000) (j : Nat) : 0 ≤ cs_nx S f j ∧ cs_nx S f j ≤ 1000000000000000000 := by
  have h1 := cs_sum_m (a := fun q => f q / 100) (p := fun q => S 11 q j) (c := 10000000000000000) (n := 10) (fun k hk => by
    have h2 := hf k hk
    have h3 := hI.2.2.2.1 k j
    show 0 ≤ f k / 100 ∧ f k / 100 ≤ 10000000000000000 ∧ 0 ≤ S 11 k j
    omega)
  have h4 := hP j
  unfold cs_nx
  omega
theorem cs_way_b {S : cs_S} (hI : cs_I S) (hP : cs_P S) (o : Int) (n : Nat) : ∀ j, 0 ≤ cs_way S o n j ∧ cs_way S o n j ≤ 1000000000000000000 := by
  induction n with
  | zero =>
    intro j
    show 0 ≤ (if (j : Int) = o then (1000000000000000000 : Int) else 0) ∧ (if (j : Int) = o then (1000000000000000000 : Int) else 0) ≤ 1000000000000000000
    split <;> omega
  | succ n ih => exact fun j => cs_nx_b hI hP (fun q _ => ih q) j
/-- scratch -/
def cs_su (sc : Nat → Nat → Int) (k j : Nat) (v : Int) : Nat → Nat → Int := fun k' j' => if k' = k ∧ j' = j then v else sc k' j'
theorem wC_s0 (u : cx_U) (ad : Nat → Nat → Nat) (S : cs_S) (sc : Nat → Nat → Int) (jn : Nat) (v : Int) : cx_up (wC u ad S sc) 11 0 (ad 11 0, .inl (u.2 1, 10, .inr (.inl (fun z_ => jL (va_up (fun z_ => sc 0 z_) jn v z_))))) = wC u ad S (cs_su sc 0 jn v) := by
  funext k j
  match k with
  | 0 => by_cases hz : j = 0 <;> simp [cx_up, wC, cs_su, hz, va_upE]
  | 1 => by_cases hz : j = 0 <;> simp [cx_up, wC, cs_su, hz, va_upE]
  | 2 => by_cases hz : j = 0 <;> simp [cx_up, wC, cs_su, hz, va_upE]
  | 3 => by_cases hz : j = 0 <;> simp [cx_up, wC, cs_su, hz, va_upE]
  | 4 => by_cases hz : j = 0 <;> simp [cx_up, wC, cs_su, hz, va_upE]
  | 5 => by_cases hz : j = 0 <;> simp [cx_up, wC, cs_su, hz, va_upE]
  | 6 => by_cases hz : j = 0 <;> simp [cx_up, wC, cs_su, hz, va_upE]
  | 7 => by_cases hz : j = 0 <;> simp [cx_up, wC, cs_su, hz, va_upE]
  | 8 => by_cases hz : j = 0 <;> simp [cx_up, wC, cs_su, hz, va_upE]
  | 9 => by_cases hz : j = 0 <;> simp [cx_up, wC, cs_su, hz, va_upE]
  | 10 => by_cases hz : j = 0 <;> simp [cx_up, wC, cs_su, hz, va_upE]
  | 11 => by_cases hz : j = 0 <;> simp [cx_up, wC, cs_su, hz, va_upE]
  | 12 => by_cases hz : j = 0 <;> simp [cx_up, wC, cs_su, hz, va_upE]
  | 13 => by_cases hz : j = 0 <;> simp [cx_up, wC, cs_su, hz, va_upE]
  | 14 => by_cases hz : j = 0 <;> simp [cx_up, wC, cs_su, hz, va_upE]
  | 15 => by_cases hz : j = 0 <;> simp [cx_up, wC, cs_su, hz, va_upE]
  | 16 => by_cases hz : j = 0 <;> simp [cx_up, wC, cs_su, hz, va_upE]
  | k + 17 => simp [cx_up, wC]
theorem wC_s1 (u : cx_U) (ad : Nat → Nat → Nat) (S : cs_S) (sc : Nat → Nat → Int) (jn : Nat) (v : Int) : cx_up (wC u ad S sc) 12 0 (ad 12 0, .inl (u.2 1, 10, .inr (.inl (fun z_ => jL (va_up (fun z_ => sc 1 z_) jn v z_))))) = wC u ad S (cs_su sc 1 jn v) := by
  funext k j
  match k with
  | 0 => by_cases hz : j = 0 <;> simp [cx_up, wC, cs_su, hz, va_upE]
  | 1 => by_cases hz : j = 0 <;> simp [cx_up, wC, cs_su, hz, va_upE]
  | 2 => by_cases hz : j = 0 <;> simp [cx_up, wC, cs_su, hz, va_upE]
  | 3 => by_cases hz : j = 0 <;> simp [cx_up, wC, cs_su, hz, va_upE]
  | 4 => by_cases hz : j = 0 <;> simp [cx_up, wC, cs_su, hz, va_upE]
  | 5 => by_cases hz : j = 0 <;> simp [cx_up, wC, cs_su, hz, va_upE]
  | 6 => by_cases hz : j = 0 <;> simp [cx_up, wC, cs_su, hz, va_upE]
  | 7 => by_cases hz : j = 0 <;> simp [cx_up, wC, cs_su, hz, va_upE]
  | 8 => by_cases hz : j = 0 <;> simp [cx_up, wC, cs_su, hz, va_upE]
  | 9 => by_cases hz : j = 0 <;> simp [cx_up, wC, cs_su, hz, va_upE]
  | 10 => by_cases hz : j = 0 <;> simp [cx_up, wC, cs_su, hz, va_upE]
  | 11 => by_cases hz : j = 0 <;> simp [cx_up, wC, cs_su, hz, va_upE]
  | 12 => by_cases hz : j = 0 <;> simp [cx_up, wC, cs_su, hz, va_upE]
  | 13 => by_cases hz : j = 0 <;> simp [cx_up, wC, cs_su, hz, va_upE]
  | 14 => by_cases hz : j = 0 <;> simp [cx_up, wC, cs_su, hz, va_upE]
  | 15 => by_cases hz : j = 0 <;> simp [cx_up, wC, cs_su, hz, va_upE]
  | 16 => by_cases hz : j = 0 <;> simp [cx_up, wC, cs_su, hz, va_upE]
  | k + 17 => simp [cx_up, wC]
theorem wC_s2 (u : cx_U) (ad : Nat → Nat → Nat) (S : cs_S) (sc : Nat → Nat → Int) (jn : Nat) (v : Int) : cx_up (wC u ad S sc) 13 0 (ad 13 0, .inl (u.2 1, 10, .inr (.inl (fun z_ => jL (va_up (fun z_ => sc 2 z_) jn v z_))))) = wC u ad S (cs_su sc 2 jn v) := by
  funext k j
  match k with
  | 0 => by_cases hz : j = 0 <;> simp [cx_up, wC, cs_su, hz, va_upE]
  | 1 => by_cases hz : j = 0 <;> simp [cx_up, wC, cs_su, hz, va_upE]
  | 2 => by_cases hz : j = 0 <;> simp [cx_up, wC, cs_su, hz, va_upE]
  | 3 => by_cases hz : j = 0 <;> simp [cx_up, wC, cs_su, hz, va_upE]
  | 4 => by_cases hz : j = 0 <;> simp [cx_up, wC, cs_su, hz, va_upE]
  | 5 => by_cases hz : j = 0 <;> simp [cx_up, wC, cs_su, hz, va_upE]
  | 6 => by_cases hz : j = 0 <;> simp [cx_up, wC, cs_su, hz, va_upE]
  | 7 => by_cases hz : j = 0 <;> simp [cx_up, wC, cs_su, hz, va_upE]
  | 8 => by_cases hz : j = 0 <;> simp [cx_up, wC, cs_su, hz, va_upE]
  | 9 => by_cases hz : j = 0 <;> simp [cx_up, wC, cs_su, hz, va_upE]
  | 10 => by_cases hz : j = 0 <;> simp [cx_up, wC, cs_su, hz, va_upE]
  | 11 => by_cases hz : j = 0 <;> simp [cx_up, wC, cs_su, hz, va_upE]
  | 12 => by_cases hz : j = 0 <;> simp [cx_up, wC, cs_su, hz, va_upE]
  | 13 => by_cases hz : j = 0 <;> simp [cx_up, wC, cs_su, hz, va_upE]
  | 14 => by_cases hz : j = 0 <;> simp [cx_up, wC, cs_su, hz, va_upE]
  | 15 => by_cases hz : j = 0 <;> simp [cx_up, wC, cs_su, hz, va_upE]
  | 16 => by_cases hz : j = 0 <;> simp [cx_up, wC, cs_su, hz, va_upE]
  | k + 17 => simp [cx_up, wC]
section CXCP
variable {p : Program} {l : Launch} {e : Env} {R : Room} {s : State} {m : MethodId} {args : Array Value} {below : List Frame} {meth : Method} {c : Code} {H : Heap} {locs : List Loc} {cells slots : Nat} {Q : State → Prop}
variable {cc : ByteArray} {pc nL : Nat} {ls : Array Slot} {rest : List Value} {own : String} {u : cx_U} {A : Nat → Prop} {w : cx_W} {a : Nat}
/-- System.arraycopy of ten longs between two arrays of ten -/
theorem cx_copy (X : CallFix p m c cc nL s args GW own) (B : cx_B u A w s H locs) {k0 i0 k1 i1 a0 index : Nat} {f g : Nat → Int} (he0 : w k0 i0 = some (a0, .inl (u.2 1, 10, .inr (.inl (fun x => jL (f x)))))) (he1 : w k1 i1 = some (a, .inl (u.2 1, 10, .inr (.inl (fun x => jL (g x)))))) (hl : Cond.methodLink own index arraycopyName ∈ GW) (hls : ls.size = nL) (hR : 1 ≤ R.frames ∧ (rest.map fun v => v.category).sum + (nativeFrameWords "java/lang/System" "arraycopy" 5 + 11) ≤ R.locals) (hdg : decode cc pc = .ok (.invokestatic index, 3))
    (kk : ∀ (H : Heap) (locs : List Loc), cx_B u A (cx_up w k1 i1 (a, .inl (u.2 1, 10, .inr (.inl (fun z => jL (if z < 10 then f z else g z)))))) s H locs → W p l e R s m args below meth c H locs cells slots Q (F0 m (pc + 3) ls rest)) : W p l e R s m args below meth c H locs cells slots Q (F0 m pc ls (.int (jI 10) :: .int (jI 0) :: .ref a :: .int (jI 0) :: .ref a0 :: rest)) := by
  obtain ⟨hK, hP, hD, hS, hA, hE⟩ := B
  have hts := X.2.2.2.2
  have c0 : (jI 0).toNatClampNeg = 0 := by decide +kernel
  have c10 : (jI 10).toNatClampNeg = 10 := by decide +kernel
  intro T hT Y
  have hc0 : H[a0]? = some (vp_cell (u.2 1) (10, .inr (.inl (fun x => jL (f x))))) := hP k0 i0 _ he0
  have hc1 : H[a]? = some (vp_cell (u.2 1) (10, .inr (.inl (fun x => jL (g x))))) := hP k1 i1 _ he1
  obtain ⟨-, k0', hk0, cm0, hkk0⟩ := (hK.2 1 (u.2 1, .long) rfl).1 10 (fun j => .long (jL (f j)))
  obtain ⟨vm', X', step⟩ := Y.arraycopy X.1 X.2.2.2.1 (hts _ hl) (hts _ gv_arraycopyName) (hts _ gt_arraycopyName) (hts _ gi_System) (src := a0) (dst := a) (cs := vp_cell (u.2 1) (10, .inr (.inl (fun x => jL (f x))))) (cd := vp_cell (u.2 1) (10, .inr (.inl (fun x => jL (g x))))) (srcPos := jI 0) (destPos := jI 0) (n := jI 10) (by rw [hT]; exact hc0) (by rw [hT]; exact hc1)
    (fun _ h => by cases h) (fun _ h => by cases h) (fun h => by cases h) (fun h => by cases h) hk0 hk0 hkk0 hkk0 (by simp [refKind]) (by decide +kernel) (by decide +kernel) (by decide +kernel)
    (by show ¬ _ > ((arrV (u.2 1) 10 (fun j => .long (jL (f j)))).slots.size : Int); rw [arrV_size]; decide +kernel)
    (by show ¬ _ > ((arrV (u.2 1) 10 (fun j => .long (jL (g j)))).slots.size : Int); rw [arrV_size]; decide +kernel)
    (fun vm₁ _ i hi => by
      have e : (vp_cell (u.2 1) (10, .inr (.inl (fun x => jL (f x))))).slots.getD ((jI 0).toNatClampNeg + i) .null = .long (jL (f ((jI 0).toNatClampNeg + i))) := by
        show (arrV (u.2 1) 10 (fun j => .long (jL (f j)))).slots.getD _ _ = _
        rw [Array.getD_eq_getD_getElem?, arrV_read _ _ (by rw [c0]; rw [c10] at hi; omega)]
        rfl
      refine ⟨?_, ?_⟩
      · rw [e]
        rfl
      · rw [e]
        exact trivial)
    (g := F0 m pc ls (.int (jI 10) :: .int (jI 0) :: .ref a :: .int (jI 0) :: .ref a0 :: rest)) rfl (by rw [X.2.2.1]; exact hls) (rest := rest) rfl (by rw [X.2.1]; exact hdg) hR.1 (by have := hR.2; show 2 * 0 + _ + _ ≤ _; omega)
  have e1 : copied (vp_cell (u.2 1) (10, .inr (.inl (fun x => jL (f x))))) (vp_cell (u.2 1) (10, .inr (.inl (fun x => jL (g x))))) (jI 0) (jI 0) (jI 10) = vp_cell (u.2 1) (10, .inr (.inl (fun z => jL (if z < 10 then f z else g z)))) := by
    have e0 : copied (vp_cell (u.2 1) (10, .inr (.inl (fun x => jL (f x))))) (vp_cell (u.2 1) (10, .inr (.inl (fun x => jL (g x))))) (jI 0) (jI 0) (jI 10) = vp_cell (u.2 1) (10, .inr (.inl (va_cpy (fun x => jL (f x)) (fun x => jL (g x)) (jI 0).toNatClampNeg (jI 0).toNatClampNeg (jI 10).toNatClampNeg))) := va_copied (fun z => .long z) (u.2 1) (u.2 1) (fun x => jL (f x)) (fun x => jL (g x)) (by rw [c0, c10]; omega)
    rw [e0]
    refine congrArg (fun q => vp_cell (u.2 1) (10, .inr (.inl q))) ?_
    funext z
    simp only [va_cpy, c0, c10]
    by_cases hz : z < 10
    · simp [hz]
    · simp [hz]
  rw [e1] at X' step
  have hl2 : a < H.size := (Array.getElem?_eq_some_iff.mp hc1).1
  have hheap : ((T.setVm vm').setCell a (vp_cell (u.2 1) (10, .inr (.inl (fun z => jL (if z < 10 then f z else g z)))))).heap = H.setIfInBounds a (vp_cell (u.2 1) (10, .inr (.inl (fun z => jL (if z < 10 then f z else g z))))) := by rw [← hT]; rfl
  have oq : ∀ q : Nat, q ≠ a → (H.setIfInBounds a (vp_cell (u.2 1) (10, .inr (.inl (fun z => jL (if z < 10 then f z else g z))))))[q]? = H[q]? := fun q hq => by simp [Array.getElem?_setIfInBounds, Ne.symm hq]
  obtain ⟨t, a1, b1⟩ := kk _ _ ⟨hK, hP.set hD he1 (show (H.setIfInBounds a _)[a]? = some _ by simp [Array.getElem?_setIfInBounds, hl2]) oq, hD.set he1, ⟨by simp; exact hS.1, fun q g1 g2 => by
      rw [oq q (fun e => g2 (by rw [e]; exact hD.2 k1 i1 _ he1))]
      exact hS.2.1 q g1 g2, fun q hq => by
      rcases List.mem_append.mp hq with h | h
      · exact hS.2.2 q h
      · obtain ⟨z, -, hz⟩ := List.mem_map.mp h
        rw [← hz]
        exact hD.2 k1 i1 _ he1⟩, hA, hE⟩ _ hheap X'
  exact ⟨t, step t a1, b1⟩
end CXCP
theorem wC_cp (u : cx_U) (ad : Nat → Nat → Nat) (S : cs_S) (sc : Nat → Nat → Int) : cx_up (wC u ad S sc) 11 0 (ad 11 0, .inl (u.2 1, 10, .inr (.inl (fun z => jL (if z < 10 then sc 1 z else sc 0 z))))) = wC u ad S (fun k j => if k = 0 then (if j < 10 then sc 1 j else sc 0 j) else sc k j) := by
  funext k j
  match k with
  | 0 => by_cases hz : j = 0 <;> simp [cx_up, wC, hz]
  | 1 => by_cases hz : j = 0 <;> simp [cx_up, wC, hz]
  | 2 => by_cases hz : j = 0 <;> simp [cx_up, wC, hz]
  | 3 => by_cases hz : j = 0 <;> simp [cx_up, wC, hz]
  | 4 => by_cases hz : j = 0 <;> simp [cx_up, wC, hz]
  | 5 => by_cases hz : j = 0 <;> simp [cx_up, wC, hz]
  | 6 => by_cases hz : j = 0 <;> simp [cx_up, wC, hz]
  | 7 => by_cases hz : j = 0 <;> simp [cx_up, wC, hz]
  | 8 => by_cases hz : j = 0 <;> simp [cx_up, wC, hz]
  | 9 => by_cases hz : j = 0 <;> simp [cx_up, wC, hz]
  | 10 => by_cases hz : j = 0 <;> simp [cx_up, wC, hz]
  | 11 => by_cases hz : j = 0 <;> simp [cx_up, wC, hz]
  | 12 => by_cases hz : j = 0 <;> simp [cx_up, wC, hz]
  | 13 => by_cases hz : j = 0 <;> simp [cx_up, wC, hz]
  | 14 => by_cases hz : j = 0 <;> simp [cx_up, wC, hz]
  | 15 => by_cases hz : j = 0 <;> simp [cx_up, wC, hz]
  | 16 => by_cases hz : j = 0 <;> simp [cx_up, wC, hz]
  | k + 17 => simp [cx_up, wC]
set_option maxHeartbeats 4000000 in
set_option maxRecDepth 100000 in
theorem c_O_lengthenWays (l : Launch) (u : cx_U) (sz : Nat) (ad : Nat → Nat → Nat) (S : cs_S) (sc : Nat → Nat → Int) (hI : cs_I S) (hP : cs_P S) (hf : ∀ q, q < 10 → 0 ≤ sc 0 q ∧ sc 0 q ≤ 1000000000000000000) : cx_M l u mn_O_lengthenWays bc_O_lengthenWays 5 none 1 60 [.ref (ad 9 0)] (wC u ad S sc) sz (none) (fun w' => ∃ sc', w' = wC u ad S sc' ∧ (∀ j, j < 10 → sc' 0 j = cs_nx S (sc 0) j) ∧ ∀ j, sc' 2 j = sc 2 j) 0 0 := by
  refine cx_M.of (by decide +kernel) (Nat.le_of_ble_eq_true rfl) ?_
  intro p e s m args below meth c ls hsz X hr hlk hin B hl
  have X : CallFix p m c bc_O_lengthenWays 5 s args GW "CatchShares$Owners" := X
  have hl : lv_has ls 5 [(0, .ref (ad 9 0))] := hl
  refine cx_iconst X dc_O_lengthenWays_0 ?_
  refine lv_istore_n (lv' := [(1, .int (jI (0))), (0, .ref (ad 9 0))]) X.1 X.2.1 dc_O_lengthenWays_1 rfl hl (by decide) rfl (fun ls hl => ?_)
  have lp_1 : ∀ (n_2 t : Nat) (ls : Array Slot) (H : Heap) (locs : List Loc) (sc1 : Nat → Nat → Int) (k0 : ∀ j, sc1 0 j = sc 0 j) (k1 : ∀ j, j < t → sc1 1 j = cs_nx S (sc 0) j) (k2 : ∀ j, sc1 2 j = sc 2 j), (t : Int) ≤ 10 → 10 - (t : Int) < (n_2 : Int) → cx_B u (cx_A (wC u ad S sc) sz) (wC u ad S sc1) s H locs → lv_has ls 5 [(0, .ref (ad 9 0)), (1, .int (jI ((t : Int))))] → W p l e (cx_R 1 60 0 0) s m args below meth c H locs 0 0 (MQ below (cx_Q u (wC u ad S sc) sz (none) (fun w' => ∃ sc', w' = wC u ad S sc' ∧ (∀ j, j < 10 → sc' 0 j = cs_nx S (sc 0) j) ∧ ∀ j, sc' 2 j = sc 2 j)) args s 0 0 (cx_A (wC u ad S sc) sz)) (F0 m 2 ls []) := by
    intro n_2
    induction n_2 with
    | zero => intro t ls H locs sc1 k0 k1 k2 hi_4 hn_5; exfalso; omega
    | succ n_2 ih_3 =>
      intro t ls H locs sc1 k0 k1 k2 hi_4 hn_5 B hl
      refine lv_iload_n X.1 X.2.1 dc_O_lengthenWays_2 rfl (lv_at hl 1 rfl) ?_
      refine cx_bipush X dc_O_lengthenWays_3 (by decide +kernel) ?_
      refine cx_icmp_ge (tgt := 67) X (by omega) (by omega) (by omega) (by omega) dc_O_lengthenWays_5 (by decide) (fun c_6 => ?_) (fun c_6 => ?_)
      · refine lv_aload_n X.1 X.2.1 dc_O_lengthenWays_67 rfl (lv_at hl 0 rfl) ?_
        refine cx_get (v := .ref (ad 12 0)) X B (wC_9 u ad S sc1) rfl uw_O 2 (by decide) gf_O_19 rfl dc_O_lengthenWays_68 ?_
        refine cx_iconst X dc_O_lengthenWays_71 ?_
        refine lv_aload_n X.1 X.2.1 dc_O_lengthenWays_72 rfl (lv_at hl 0 rfl) ?_
        refine cx_get (v := .ref (ad 11 0)) X B (wC_9 u ad S sc1) rfl uw_O 1 (by decide) gf_O_15 rfl dc_O_lengthenWays_73 ?_
        refine cx_iconst X dc_O_lengthenWays_76 ?_
        refine cx_bipush X dc_O_lengthenWays_77 (by decide +kernel) ?_
        refine cx_copy X B (wC_12 u ad S sc1) (wC_11 u ad S sc1) gm_O_36 hl.1 ⟨(Nat.le_of_ble_eq_true rfl), (by decide +kernel)⟩ dc_O_lengthenWays_79 (fun H locs B => ?_)
        have B : cx_B u (cx_A (wC u ad S sc) sz) (wC u ad S (fun k j => if k = 0 then (if j < 10 then sc1 1 j else sc1 0 j) else sc1 k j)) s H locs := by rw [← wC_cp]; exact B
        exact cx_vretM X B hsz hr hlk (Nat.le_of_ble_eq_true rfl) (Nat.le_of_ble_eq_true rfl) ⟨_, rfl, fun j hj => by simp [hj]; exact k1 j (by omega), fun j => by simp; exact k2 j⟩ dc_O_lengthenWays_82
      · refine cx_lconst (a := 0) X dc_O_lengthenWays_8 (by decide +kernel) ?_
        refine lv_lstore_n (lv' := [(2, .long (jL (0))), (0, .ref (ad 9 0)), (1, .int (jI ((t : Int))))]) X.1 X.2.1 dc_O_lengthenWays_9 rfl hl (by decide) rfl (fun ls hl => ?_)
        refine cx_iconst X dc_O_lengthenWays_10 ?_
        refine lv_istore (lv' := [(4, .int (jI (0))), (2, .long (jL (0))), (0, .ref (ad 9 0)), (1, .int (jI ((t : Int))))]) X.1 X.2.1 dc_O_lengthenWays_11 hl (by decide) rfl (fun ls hl => ?_)
        have lp_7 : ∀ (n_8 q : Nat) (ls : Array Slot) (H : Heap) (locs : List Loc) , (q : Int) ≤ 10 → 10 - (q : Int) < (n_8 : Int) → cx_B u (cx_A (wC u ad S sc) sz) (wC u ad S sc1) s H locs → lv_has ls 5 [(0, .ref (ad 9 0)), (1, .int (jI ((t : Int)))), (2, .long (jL (cs_sum (fun q => sc 0 q / 100 * S 11 q t) q))), (4, .int (jI ((q : Int))))] → W p l e (cx_R 1 60 0 0) s m args below meth c H locs 0 0 (MQ below (cx_Q u (wC u ad S sc) sz (none) (fun w' => ∃ sc', w' = wC u ad S sc' ∧ (∀ j, j < 10 → sc' 0 j = cs_nx S (sc 0) j) ∧ ∀ j, sc' 2 j = sc 2 j)) args s 0 0 (cx_A (wC u ad S sc) sz)) (F0 m 13 ls []) := by
          intro n_8
          induction n_8 with
          | zero => intro q ls H locs  hi_10 hn_11; exfalso; omega
          | succ n_8 ih_9 =>
            intro q ls H locs  hi_10 hn_11 B hl
            have hfq := hf q
            refine lv_iload X.1 X.2.1 dc_O_lengthenWays_13 (lv_at hl 3 rfl) ?_
            refine cx_bipush X dc_O_lengthenWays_15 (by decide +kernel) ?_
            refine cx_icmp_ge (tgt := 54) X (by omega) (by omega) (by omega) (by omega) dc_O_lengthenWays_17 (by decide) (fun c_12 => ?_) (fun c_12 => ?_)
            · refine lv_aload_n X.1 X.2.1 dc_O_lengthenWays_54 rfl (lv_at hl 0 rfl) ?_
              refine cx_get (v := .ref (ad 12 0)) X B (wC_9 u ad S sc1) rfl uw_O 2 (by decide) gf_O_19 rfl dc_O_lengthenWays_55 ?_
              refine lv_iload_n X.1 X.2.1 dc_O_lengthenWays_58 rfl (lv_at hl 1 rfl) ?_
              refine lv_lload_n X.1 X.2.1 dc_O_lengthenWays_59 rfl (lv_at hl 2 rfl) ?_
              refine cx_last X B (wC_12 u ad S sc1) (t) (by omega) (by omega) (by decide) dc_O_lengthenWays_60 (fun H locs B => ?_)
              have B : cx_B u (cx_A (wC u ad S sc) sz) (cx_up (wC u ad S sc1) 12 0 (ad 12 0, .inl (u.2 1, 10, .inr (.inl (fun z_ => jL (va_up (fun z_ => sc1 1 z_) t (cs_sum (fun q => sc 0 q / 100 * S 11 q t) q) z_)))))) s H locs := B
              obtain ⟨sc2, hsc2⟩ : ∃ z, z = cs_su sc1 1 t (cs_sum (fun q => sc 0 q / 100 * S 11 q t) q) := ⟨_, rfl⟩
              have B : cx_B u (cx_A (wC u ad S sc) sz) (wC u ad S sc2) s H locs := by rw [hsc2, ← wC_s1]; exact B
              refine lv_iinc (v := jI ((t : Int) + 1)) (lv' := [(1, .int (jI ((t : Int) + 1))), (0, .ref (ad 9 0)), (2, .long (jL (cs_sum (fun q => sc 0 q / 100 * S 11 q t) q))), (4, .int (jI ((q : Int))))]) X.1 X.2.1 dc_O_lengthenWays_61 hl (k := 1) rfl (jI_add _ _) (by decide) rfl (fun ls hl => ?_)
              refine lv_goto (tgt := 2) X.1 X.2.1 dc_O_lengthenWays_64 (by decide) ?_
              have hq10 : q = 10 := by omega
              exact ih_3 (t + 1) ls _ _ sc2 (fun j => by rw [hsc2]; simp [cs_su]; exact k0 j) (fun j hj => by rw [hsc2]; by_cases hjt : j = t <;> simp [cs_su, hjt] <;> first | (rw [hq10]; rfl) | exact k1 j (by omega)) (fun j => by rw [hsc2]; simp [cs_su]; exact k2 j) (by omega) (by omega) B (by  exact lv_sub hl [1, 0] rfl)
            · refine lv_lload_n X.1 X.2.1 dc_O_lengthenWays_20 rfl (lv_at hl 2 rfl) ?_
              refine lv_aload_n X.1 X.2.1 dc_O_lengthenWays_21 rfl (lv_at hl 0 rfl) ?_
              refine cx_get (v := .ref (ad 11 0)) X B (wC_9 u ad S sc1) rfl uw_O 1 (by decide) gf_O_15 rfl dc_O_lengthenWays_22 ?_
              refine lv_iload X.1 X.2.1 dc_O_lengthenWays_25 (lv_at hl 3 rfl) ?_
              refine cx_lald X B (wC_11 u ad S sc1) (q) (by omega) (by omega) (by decide) dc_O_lengthenWays_27 ?_
              rw [k0 q]
              refine cx_ldc2 (a := 100) X gk_O_34 (by decide +kernel) dc_O_lengthenWays_28 ?_
              refine cx_ldiv X (by omega) (by omega) (by omega) (by omega) dc_O_lengthenWays_31 ?_
              refine lv_aload_n X.1 X.2.1 dc_O_lengthenWays_32 rfl (lv_at hl 0 rfl) ?_
              refine cx_get (v := .ref (ad 10 0)) X B (wC_9 u ad S sc1) rfl uw_O 0 (by decide) gf_O_9 rfl dc_O_lengthenWays_33 ?_
              refine lv_iload X.1 X.2.1 dc_O_lengthenWays_36 (lv_at hl 3 rfl) ?_
              refine cx_bipush X dc_O_lengthenWays_38 (by decide +kernel) ?_
              refine cx_imul X dc_O_lengthenWays_40 ?_
              refine lv_iload_n X.1 X.2.1 dc_O_lengthenWays_41 rfl (lv_at hl 1 rfl) ?_
              refine cx_iadd X dc_O_lengthenWays_42 ?_
              refine cx_iald X B (wC_10 u ad S sc1) ((q * 10) + t) (by omega) (by omega) (by decide) dc_O_lengthenWays_43 ?_
              rw [show ((q * 10) + t) / 10 = q by omega, show ((q * 10) + t) % 10 = t by omega]
              have r_13 := hI.2.2.2.1 q t
              refine cx_i2l X (by omega) (by omega) dc_O_lengthenWays_44 ?_
              refine cx_lmul X dc_O_lengthenWays_45 ?_
              refine cx_ladd X dc_O_lengthenWays_46 ?_
              refine lv_lstore_n (lv' := [(2, .long (jL ((cs_sum (fun q => sc 0 q / 100 * S 11 q t) q) + (((sc 0 q) / 100) * (S 11 q t))))), (0, .ref (ad 9 0)), (1, .int (jI ((t : Int)))), (4, .int (jI ((q : Int))))]) X.1 X.2.1 dc_O_lengthenWays_47 rfl hl (by decide) rfl (fun ls hl => ?_)
              refine lv_iinc (v := jI ((q : Int) + 1)) (lv' := [(4, .int (jI ((q : Int) + 1))), (2, .long (jL ((cs_sum (fun q => sc 0 q / 100 * S 11 q t) q) + (((sc 0 q) / 100) * (S 11 q t))))), (0, .ref (ad 9 0)), (1, .int (jI ((t : Int))))]) X.1 X.2.1 dc_O_lengthenWays_48 hl (k := 3) rfl (jI_add _ _) (by decide) rfl (fun ls hl => ?_)
              refine lv_goto (tgt := 13) X.1 X.2.1 dc_O_lengthenWays_51 (by decide) ?_
              exact ih_9 (q + 1) ls _ _  (by omega) (by omega) B (by  exact lv_sub hl [2, 3, 1, 0] rfl)
        exact lp_7 ((10 : Int).toNat + 1) 0 ls _ _  (by omega) (by omega) B (by  exact lv_sub hl [2, 3, 1, 0] rfl)
  exact lp_1 ((10 : Int).toNat + 1) 0 ls _ _ sc (fun _ => rfl) (fun j hj => absurd hj (by omega)) (fun _ => rfl) (by omega) (by omega) B (by  exact lv_sub hl [1, 0] rfl)
set_option maxHeartbeats 4000000 in
set_option maxRecDepth 100000 in
theorem c_O_findHolds (l : Launch) (u : cx_U) (sz : Nat) (ad : Nat → Nat → Nat) (S : cs_S) (sc : Nat → Nat → Int) (hI : cs_I S) (hP : cs_P S) (o : Int) (o1 : -2147483648 ≤ o) (o2 : o ≤ 2147483647) : cx_M l u mn_O_findHolds bc_O_findHolds 4 none 2 84 [.ref (ad 9 0), .int (jI (o))] (wC u ad S sc) sz (none) (fun w' => ∃ sc', w' = wC u ad S sc' ∧ ∀ j, j < 10 → sc' 2 j = cs_hold S o 9 j) 0 0 := by
  refine cx_M.of (by decide +kernel) (Nat.le_of_ble_eq_true rfl) ?_
  intro p e s m args below meth c ls hsz X hr hlk hin B hl
  have X : CallFix p m c bc_O_findHolds 4 s args GW "CatchShares$Owners" := X
  have hl : lv_has ls 4 [(0, .ref (ad 9 0)), (1, .int (jI (o)))] := hl
  refine cx_iconst X dc_O_findHolds_0 ?_
  refine lv_istore_n (lv' := [(2, .int (jI (0))), (0, .ref (ad 9 0)), (1, .int (jI (o)))]) X.1 X.2.1 dc_O_findHolds_1 rfl hl (by decide) rfl (fun ls hl => ?_)
  have lp_1 : ∀ (n_2 i : Nat) (ls : Array Slot) (H : Heap) (locs : List Loc) (sc1 : Nat → Nat → Int) (k0 : ∀ j, j < i → sc1 0 j = cs_way S o 0 j ∧ sc1 2 j = cs_hold S o 0 j), (i : Int) ≤ 10 → 10 - (i : Int) < (n_2 : Int) → cx_B u (cx_A (wC u ad S sc) sz) (wC u ad S sc1) s H locs → lv_has ls 4 [(0, .ref (ad 9 0)), (1, .int (jI (o))), (2, .int (jI ((i : Int))))] → W p l e (cx_R 2 84 0 0) s m args below meth c H locs 0 0 (MQ below (cx_Q u (wC u ad S sc) sz (none) (fun w' => ∃ sc', w' = wC u ad S sc' ∧ ∀ j, j < 10 → sc' 2 j = cs_hold S o 9 j)) args s 0 0 (cx_A (wC u ad S sc) sz)) (F0 m 2 ls []) := by
    intro n_2
    induction n_2 with
    | zero => intro i ls H locs sc1 k0 hi_4 hn_5; exfalso; omega
    | succ n_2 ih_3 =>
      intro i ls H locs sc1 k0 hi_4 hn_5 B hl
      refine lv_iload_n X.1 X.2.1 dc_O_findHolds_2 rfl (lv_at hl 2 rfl) ?_
      refine cx_bipush X dc_O_findHolds_3 (by decide +kernel) ?_
      refine cx_icmp_ge (tgt := 44) X (by omega) (by omega) (by omega) (by omega) dc_O_findHolds_5 (by decide) (fun c_6 => ?_) (fun c_6 => ?_)
      · refine cx_iconst X dc_O_findHolds_44 ?_
        refine lv_istore_n (lv' := [(2, .int (jI (1))), (0, .ref (ad 9 0)), (1, .int (jI (o)))]) X.1 X.2.1 dc_O_findHolds_45 rfl hl (by decide) rfl (fun ls hl => ?_)
        have lp_7 : ∀ (n_8 k : Nat) (ls : Array Slot) (H : Heap) (locs : List Loc) (sc4 : Nat → Nat → Int) (k4 : ∀ j, j < 10 → sc4 0 j = cs_way S o k j ∧ sc4 2 j = cs_hold S o k j), (k : Int) ≤ 9 → 9 - (k : Int) < (n_8 : Int) → cx_B u (cx_A (wC u ad S sc) sz) (wC u ad S sc4) s H locs → lv_has ls 4 [(0, .ref (ad 9 0)), (1, .int (jI (o))), (2, .int (jI ((k : Int) + 1)))] → W p l e (cx_R 2 84 0 0) s m args below meth c H locs 0 0 (MQ below (cx_Q u (wC u ad S sc) sz (none) (fun w' => ∃ sc', w' = wC u ad S sc' ∧ ∀ j, j < 10 → sc' 2 j = cs_hold S o 9 j)) args s 0 0 (cx_A (wC u ad S sc) sz)) (F0 m 46 ls []) := by
          intro n_8
          induction n_8 with
          | zero => intro k ls H locs sc4 k4 hi_10 hn_11; exfalso; omega
          | succ n_8 ih_9 =>
            intro k ls H locs sc4 k4 hi_10 hn_11 B hl
            refine lv_iload_n X.1 X.2.1 dc_O_findHolds_46 rfl (lv_at hl 2 rfl) ?_
            refine cx_bipush X dc_O_findHolds_47 (by decide +kernel) ?_
            refine cx_icmp_ge (tgt := 91) X (by omega) (by omega) (by omega) (by omega) dc_O_findHolds_49 (by decide) (fun c_12 => ?_) (fun c_12 => ?_)
            · have hk9 : k = 9 := by omega
              subst hk9
              exact cx_vretM X B hsz hr hlk (Nat.le_of_ble_eq_true rfl) (Nat.le_of_ble_eq_true rfl) ⟨_, rfl, fun j hj => (k4 j hj).2⟩ dc_O_findHolds_91
            · refine lv_aload_n X.1 X.2.1 dc_O_findHolds_52 rfl (lv_at hl 0 rfl) ?_
              refine cx_cVM (As := []) (rest := []) X B kc_O_lengthenWays gm_O_27 (c_O_lengthenWays l u _ ad S sc4 hI hP (fun q hq => by rw [(k4 q hq).1]; exact cs_way_b hI hP o k q)) (wC_9 u ad S sc4) rfl rfl ⟨(Nat.le_of_ble_eq_true rfl), (Nat.le_of_ble_eq_true rfl)⟩ ⟨(Nat.le_of_ble_eq_true rfl), (Nat.le_of_ble_eq_true rfl)⟩ rfl hl.1 (Nat.le_of_ble_eq_true rfl) dc_O_findHolds_53 rfl (fun H locs w' hw B => ?_)
              obtain ⟨sc7, rfl, g0, g2⟩ := hw
              have g1 : ∀ j, j < 10 → sc7 0 j = cs_way S o (k + 1) j := fun j hj => by rw [g0 j hj]; exact cs_sum_c (fun q hq => by show _ / 100 * _ = _ / 100 * _; rw [(k4 q hq).1])
              have g3 : ∀ j, j < 10 → sc7 2 j = cs_hold S o k j := fun j hj => by rw [g2 j]; exact (k4 j hj).2
              refine cx_iconst X dc_O_findHolds_56 ?_
              refine lv_istore_n (lv' := [(3, .int (jI (0))), (0, .ref (ad 9 0)), (1, .int (jI (o))), (2, .int (jI ((k : Int) + 1)))]) X.1 X.2.1 dc_O_findHolds_57 rfl hl (by decide) rfl (fun ls hl => ?_)
              have lp_13 : ∀ (n_14 j : Nat) (ls : Array Slot) (H : Heap) (locs : List Loc) (sc5 : Nat → Nat → Int) (w0 : ∀ x, x < 10 → sc5 0 x = cs_way S o (k + 1) x) (w1 : ∀ x, x < j → sc5 2 x = cs_hold S o (k + 1) x) (w2 : ∀ x, j ≤ x → x < 10 → sc5 2 x = cs_hold S o k x), (j : Int) ≤ 10 → 10 - (j : Int) < (n_14 : Int) → cx_B u (cx_A (wC u ad S sc) sz) (wC u ad S sc5) s H locs → lv_has ls 4 [(0, .ref (ad 9 0)), (1, .int (jI (o))), (2, .int (jI ((k : Int) + 1))), (3, .int (jI ((j : Int))))] → W p l e (cx_R 2 84 0 0) s m args below meth c H locs 0 0 (MQ below (cx_Q u (wC u ad S sc) sz (none) (fun w' => ∃ sc', w' = wC u ad S sc' ∧ ∀ j, j < 10 → sc' 2 j = cs_hold S o 9 j)) args s 0 0 (cx_A (wC u ad S sc) sz)) (F0 m 58 ls []) := by
                intro n_14
                induction n_14 with
                | zero => intro j ls H locs sc5 w0 w1 w2 hi_16 hn_17; exfalso; omega
                | succ n_14 ih_15 =>
                  intro j ls H locs sc5 w0 w1 w2 hi_16 hn_17 B hl
                  refine lv_iload_n X.1 X.2.1 dc_O_findHolds_58 rfl (lv_at hl 3 rfl) ?_
                  refine cx_bipush X dc_O_findHolds_59 (by decide +kernel) ?_
                  refine cx_icmp_ge (tgt := 85) X (by omega) (by omega) (by omega) (by omega) dc_O_findHolds_61 (by decide) (fun c_18 => ?_) (fun c_18 => ?_)
                  · refine lv_iinc (v := jI (((k : Int) + 1) + 1)) (lv' := [(2, .int (jI (((k : Int) + 1) + 1))), (0, .ref (ad 9 0)), (1, .int (jI (o))), (3, .int (jI ((j : Int))))]) X.1 X.2.1 dc_O_findHolds_85 hl (k := 2) rfl (jI_add _ _) (by decide) rfl (fun ls hl => ?_)
                    refine lv_goto (tgt := 46) X.1 X.2.1 dc_O_findHolds_88 (by decide) ?_
                    exact ih_9 (k + 1) ls _ _ sc5 (fun j hj => ⟨w0 j hj, w1 j (by omega)⟩) (by omega) (by omega) B (by  exact lv_sub hl [1, 2, 0] rfl)
                  · refine lv_aload_n X.1 X.2.1 dc_O_findHolds_64 rfl (lv_at hl 0 rfl) ?_
                    refine cx_get (v := .ref (ad 13 0)) X B (wC_9 u ad S sc5) rfl uw_O 3 (by decide) gf_O_22 rfl dc_O_findHolds_65 ?_
                    refine lv_iload_n X.1 X.2.1 dc_O_findHolds_68 rfl (lv_at hl 3 rfl) ?_
                    refine lv_dup2_11 X.1 X.2.1 dc_O_findHolds_69 rfl rfl ?_
                    refine cx_lald X B (wC_13 u ad S sc5) (j) (by omega) (by omega) (by decide) dc_O_findHolds_70 ?_
                    refine lv_aload_n X.1 X.2.1 dc_O_findHolds_71 rfl (lv_at hl 0 rfl) ?_
                    refine cx_get (v := .ref (ad 11 0)) X B (wC_9 u ad S sc5) rfl uw_O 1 (by decide) gf_O_15 rfl dc_O_findHolds_72 ?_
                    refine lv_iload_n X.1 X.2.1 dc_O_findHolds_75 rfl (lv_at hl 3 rfl) ?_
                    refine cx_lald X B (wC_11 u ad S sc5) (j) (by omega) (by omega) (by decide) dc_O_findHolds_76 ?_
                    refine cx_ladd X dc_O_findHolds_77 ?_
                    refine cx_last X B (wC_13 u ad S sc5) (j) (by omega) (by omega) (by decide) dc_O_findHolds_78 (fun H locs B => ?_)
                    have B : cx_B u (cx_A (wC u ad S sc) sz) (cx_up (wC u ad S sc5) 13 0 (ad 13 0, .inl (u.2 1, 10, .inr (.inl (fun z_ => jL (va_up (fun z_ => sc5 2 z_) j ((sc5 2 j) + (sc5 0 j)) z_)))))) s H locs := B
                    obtain ⟨sc6, hsc6⟩ : ∃ z, z = cs_su sc5 2 j (sc5 2 j + sc5 0 j) := ⟨_, rfl⟩
                    have B : cx_B u (cx_A (wC u ad S sc) sz) (wC u ad S sc6) s H locs := by rw [hsc6, ← wC_s2]; exact B
                    refine lv_iinc (v := jI ((j : Int) + 1)) (lv' := [(3, .int (jI ((j : Int) + 1))), (0, .ref (ad 9 0)), (1, .int (jI (o))), (2, .int (jI ((k : Int) + 1)))]) X.1 X.2.1 dc_O_findHolds_79 hl (k := 3) rfl (jI_add _ _) (by decide) rfl (fun ls hl => ?_)
                    refine lv_goto (tgt := 58) X.1 X.2.1 dc_O_findHolds_82 (by decide) ?_
                    have hx : ∀ x, x < 10 → sc6 0 x = cs_way S o (k + 1) x := fun x hx => by rw [hsc6]; simp [cs_su]; exact w0 x hx
                    have hy : ∀ x, x < j + 1 → sc6 2 x = cs_hold S o (k + 1) x := fun x hx => by
                      rw [hsc6]
                      by_cases hxj : x = j
                      · rw [hxj]; simp [cs_su]; rw [w2 j (by omega) (by omega), w0 j (by omega)]; rfl
                      · simp [cs_su, hxj]; exact w1 x (by omega)
                    have hz : ∀ x, j + 1 ≤ x → x < 10 → sc6 2 x = cs_hold S o k x := fun x h1 h2 => by rw [hsc6]; simp [cs_su, show ¬ x = j by omega]; exact w2 x (by omega) h2
                    exact ih_15 (j + 1) ls _ _ sc6 hx hy hz (by omega) (by omega) B (by  exact lv_sub hl [1, 2, 3, 0] rfl)
              exact lp_13 ((10 : Int).toNat + 1) 0 ls _ _ sc7 g1 (fun x hx => absurd hx (by omega)) (fun x _ hx => g3 x hx) (by omega) (by omega) B (by  exact lv_sub hl [1, 2, 3, 0] rfl)
        exact lp_7 ((9 : Int).toNat + 1) 0 ls _ _ sc1 (fun j hj => k0 j (by omega)) (by omega) (by omega) B (by  exact lv_sub hl [1, 2, 0] rfl)
      · refine lv_aload_n X.1 X.2.1 dc_O_findHolds_8 rfl (lv_at hl 0 rfl) ?_
        refine cx_get (v := .ref (ad 11 0)) X B (wC_9 u ad S sc1) rfl uw_O 1 (by decide) gf_O_15 rfl dc_O_findHolds_9 ?_
        refine lv_iload_n X.1 X.2.1 dc_O_findHolds_12 rfl (lv_at hl 2 rfl) ?_
        refine lv_iload_n X.1 X.2.1 dc_O_findHolds_13 rfl (lv_at hl 2 rfl) ?_
        refine lv_iload_n X.1 X.2.1 dc_O_findHolds_14 rfl (lv_at hl 1 rfl) ?_
        refine cx_icmp_ne (tgt := 24) X (by omega) (by omega) (by omega) (by omega) dc_O_findHolds_15 (by decide) (fun c_19 => ?_) (fun c_19 => ?_)
        · refine cx_lconst (a := 0) X dc_O_findHolds_24 (by decide +kernel) ?_
          refine cx_last X B (wC_11 u ad S sc1) (i) (by omega) (by omega) (by decide) dc_O_findHolds_25 (fun H locs B => ?_)
          have B : cx_B u (cx_A (wC u ad S sc) sz) (cx_up (wC u ad S sc1) 11 0 (ad 11 0, .inl (u.2 1, 10, .inr (.inl (fun z_ => jL (va_up (fun z_ => sc1 0 z_) i 0 z_)))))) s H locs := B
          obtain ⟨sc2, hsc2⟩ : ∃ z, z = cs_su sc1 0 i 0 := ⟨_, rfl⟩
          have B : cx_B u (cx_A (wC u ad S sc) sz) (wC u ad S sc2) s H locs := by rw [hsc2, ← wC_s0]; exact B
          refine lv_aload_n X.1 X.2.1 dc_O_findHolds_26 rfl (lv_at hl 0 rfl) ?_
          refine cx_get (v := .ref (ad 13 0)) X B (wC_9 u ad S sc2) rfl uw_O 3 (by decide) gf_O_22 rfl dc_O_findHolds_27 ?_
          refine lv_iload_n X.1 X.2.1 dc_O_findHolds_30 rfl (lv_at hl 2 rfl) ?_
          refine lv_aload_n X.1 X.2.1 dc_O_findHolds_31 rfl (lv_at hl 0 rfl) ?_
          refine cx_get (v := .ref (ad 11 0)) X B (wC_9 u ad S sc2) rfl uw_O 1 (by decide) gf_O_15 rfl dc_O_findHolds_32 ?_
          refine lv_iload_n X.1 X.2.1 dc_O_findHolds_35 rfl (lv_at hl 2 rfl) ?_
          refine cx_lald X B (wC_11 u ad S sc2) (i) (by omega) (by omega) (by decide) dc_O_findHolds_36 ?_
          rw [show sc2 0 i = 0 by rw [hsc2]; simp [cs_su]]
          refine cx_last X B (wC_13 u ad S sc2) (i) (by omega) (by omega) (by decide) dc_O_findHolds_37 (fun H locs B => ?_)
          have B : cx_B u (cx_A (wC u ad S sc) sz) (cx_up (wC u ad S sc2) 13 0 (ad 13 0, .inl (u.2 1, 10, .inr (.inl (fun z_ => jL (va_up (fun z_ => sc2 2 z_) i 0 z_)))))) s H locs := B
          obtain ⟨sc3, hsc3⟩ : ∃ z, z = cs_su sc2 2 i 0 := ⟨_, rfl⟩
          have B : cx_B u (cx_A (wC u ad S sc) sz) (wC u ad S sc3) s H locs := by rw [hsc3, ← wC_s2]; exact B
          refine lv_iinc (v := jI ((i : Int) + 1)) (lv' := [(2, .int (jI ((i : Int) + 1))), (0, .ref (ad 9 0)), (1, .int (jI (o)))]) X.1 X.2.1 dc_O_findHolds_38 hl (k := 2) rfl (jI_add _ _) (by decide) rfl (fun ls hl => ?_)
          refine lv_goto (tgt := 2) X.1 X.2.1 dc_O_findHolds_41 (by decide) ?_
          exact ih_3 (i + 1) ls _ _ sc3 (fun j hj => by rw [hsc3, hsc2]; by_cases hji : j = i <;> simp [cs_su, hji] <;> first | exact k0 j (by omega) | (exact ⟨by show _ = (if (i : Int) = o then (1000000000000000000 : Int) else 0); rw [if_neg (by omega)], by show _ = (if (i : Int) = o then (1000000000000000000 : Int) else 0); rw [if_neg (by omega)]⟩)) (by omega) (by omega) B (by  exact lv_sub hl [1, 2, 0] rfl)
        · refine cx_ldc2 (a := 1000000000000000000) X gk_O_25 (by decide +kernel) dc_O_findHolds_18 ?_
          refine lv_goto (tgt := 25) X.1 X.2.1 dc_O_findHolds_21 (by decide) ?_
          refine cx_last X B (wC_11 u ad S sc1) (i) (by omega) (by omega) (by decide) dc_O_findHolds_25 (fun H locs B => ?_)
          have B : cx_B u (cx_A (wC u ad S sc) sz) (cx_up (wC u ad S sc1) 11 0 (ad 11 0, .inl (u.2 1, 10, .inr (.inl (fun z_ => jL (va_up (fun z_ => sc1 0 z_) i 1000000000000000000 z_)))))) s H locs := B
          obtain ⟨sc2, hsc2⟩ : ∃ z, z = cs_su sc1 0 i 1000000000000000000 := ⟨_, rfl⟩
          have B : cx_B u (cx_A (wC u ad S sc) sz) (wC u ad S sc2) s H locs := by rw [hsc2, ← wC_s0]; exact B
          refine lv_aload_n X.1 X.2.1 dc_O_findHolds_26 rfl (lv_at hl 0 rfl) ?_
          refine cx_get (v := .ref (ad 13 0)) X B (wC_9 u ad S sc2) rfl uw_O 3 (by decide) gf_O_22 rfl dc_O_findHolds_27 ?_
          refine lv_iload_n X.1 X.2.1 dc_O_findHolds_30 rfl (lv_at hl 2 rfl) ?_
          refine lv_aload_n X.1 X.2.1 dc_O_findHolds_31 rfl (lv_at hl 0 rfl) ?_
          refine cx_get (v := .ref (ad 11 0)) X B (wC_9 u ad S sc2) rfl uw_O 1 (by decide) gf_O_15 rfl dc_O_findHolds_32 ?_
          refine lv_iload_n X.1 X.2.1 dc_O_findHolds_35 rfl (lv_at hl 2 rfl) ?_
          refine cx_lald X B (wC_11 u ad S sc2) (i) (by omega) (by omega) (by decide) dc_O_findHolds_36 ?_
          rw [show sc2 0 i = 1000000000000000000 by rw [hsc2]; simp [cs_su]]
          refine cx_last X B (wC_13 u ad S sc2) (i) (by omega) (by omega) (by decide) dc_O_findHolds_37 (fun H locs B => ?_)
          have B : cx_B u (cx_A (wC u ad S sc) sz) (cx_up (wC u ad S sc2) 13 0 (ad 13 0, .inl (u.2 1, 10, .inr (.inl (fun z_ => jL (va_up (fun z_ => sc2 2 z_) i 1000000000000000000 z_)))))) s H locs := B
          obtain ⟨sc3, hsc3⟩ : ∃ z, z = cs_su sc2 2 i 1000000000000000000 := ⟨_, rfl⟩
          have B : cx_B u (cx_A (wC u ad S sc) sz) (wC u ad S sc3) s H locs := by rw [hsc3, ← wC_s2]; exact B
          refine lv_iinc (v := jI ((i : Int) + 1)) (lv' := [(2, .int (jI ((i : Int) + 1))), (0, .ref (ad 9 0)), (1, .int (jI (o)))]) X.1 X.2.1 dc_O_findHolds_38 hl (k := 2) rfl (jI_add _ _) (by decide) rfl (fun ls hl => ?_)
          refine lv_goto (tgt := 2) X.1 X.2.1 dc_O_findHolds_41 (by decide) ?_
          exact ih_3 (i + 1) ls _ _ sc3 (fun j hj => by rw [hsc3, hsc2]; by_cases hji : j = i <;> simp [cs_su, hji] <;> first | exact k0 j (by omega) | (exact ⟨by show _ = (if (i : Int) = o then (1000000000000000000 : Int) else 0); rw [if_pos (by omega)], by show _ = (if (i : Int) = o then (1000000000000000000 : Int) else 0); rw [if_pos (by omega)]⟩)) (by omega) (by omega) B (by  exact lv_sub hl [1, 2, 0] rfl)
  exact lp_1 ((10 : Int).toNat + 1) 0 ls _ _ sc (fun j hj => absurd hj (by omega)) (by omega) (by omega) B (by  exact lv_sub hl [1, 2, 0] rfl)
def cs_holdQ (S : cs_S) (a b : Int) : Int := if 0 ≤ a ∧ a < 10 ∧ 0 ≤ b ∧ b < 10 then cs_hold S a 9 b.toNat else -1
set_option maxHeartbeats 4000000 in
set_option maxRecDepth 100000 in
theorem c_O_found (l : Launch) (u : cx_U) (ad : Nat → Nat → Nat) (S : cs_S) (sc : Nat → Nat → Int) (hI : cs_I S) (a : Int) (a1 : 0 ≤ a) (a2 : a < 10) : cx_N l u mn_O_found bc_O_found 2 (some .long) 1 20 [.ref (ad 9 0), .int (jI (a))] (wC u ad S sc) (.long (jL (sc 2 a.toNat))) := by
  refine cx_N.of (by decide +kernel) (Nat.le_of_ble_eq_true rfl) ?_
  intro p e s m args below meth c ls A X hr hlk B hl
  have X : CallFix p m c bc_O_found 2 s args GW "CatchShares$Owners" := X
  have hl : lv_has ls 2 [(0, .ref (ad 9 0)), (1, .int (jI (a)))] := hl
  obtain ⟨j, rfl⟩ : ∃ j : Nat, a = (j : Int) := ⟨a.toNat, by omega⟩
  refine lv_iload_n X.1 X.2.1 dc_O_found_0 rfl (lv_at hl 1 rfl) ?_
  refine cx_cSX (r := .int (jI (jB (0 ≤ (j : Int) ∧ (j : Int) < 10)))) (As := [.int (jI ((j : Int)))]) (rest := []) X B kc_C_isOwner (fun _ h => h.2) (c_C_isOwner l u _ (j : Int) (by omega) (by omega)) (fun _ _ _ h => h) ⟨(Nat.le_of_ble_eq_true rfl), (Nat.le_of_ble_eq_true rfl)⟩ ⟨(Nat.le_of_ble_eq_true rfl), (Nat.le_of_ble_eq_true rfl)⟩ rfl hl.1 (Nat.le_of_ble_eq_true rfl) dc_O_found_1 rfl ?_
  refine cx_ifeqB (tgt := 16) X dc_O_found_4 (by decide) (fun c_1 => by exfalso; omega) (fun c_1 => ?_)
  refine lv_aload_n X.1 X.2.1 dc_O_found_7 rfl (lv_at hl 0 rfl) ?_
  refine cx_get (v := .ref (ad 13 0)) X B (wC_9 u ad S sc) rfl uw_O 3 (by decide) gf_O_22 rfl dc_O_found_8 ?_
  refine lv_iload_n X.1 X.2.1 dc_O_found_11 rfl (lv_at hl 1 rfl) ?_
  refine cx_lald X B (wC_13 u ad S sc) (j) (by omega) (by omega) (by decide) dc_O_found_12 ?_
  refine lv_goto (tgt := 17) X.1 X.2.1 dc_O_found_13 (by decide) ?_
  exact cx_lretN X hr hlk (rfl) dc_O_found_17
set_option maxHeartbeats 4000000 in
set_option maxRecDepth 100000 in
theorem c_C_holdOf (l : Launch) (u : cx_U) (sz : Nat) (ad : Nat → Nat → Nat) (S : cs_S) (sc : Nat → Nat → Int) (hI : cs_I S) (hP : cs_P S) (o : Int) (j : Nat) (hj : j < 10) (o1 : -2147483648 ≤ o) (o2 : o ≤ 2147483647) : cx_M l u mn_C_holdOf bc_C_holdOf 3 (some .long) 3 107 [.ref (ad 0 0), .int (jI (o)), .int (jI ((j : Int)))] (wC u ad S sc) sz (some (.long (jL (cs_hold S o 9 j)))) (fun w' => ∃ sc', w' = wC u ad S sc') 0 0 := by
  refine cx_M.of (by decide +kernel) (Nat.le_of_ble_eq_true rfl) ?_
  intro p e s m args below meth c ls hsz X hr hlk hin B hl
  have X : CallFix p m c bc_C_holdOf 3 s args GW "CatchShares" := X
  have hl : lv_has ls 3 [(0, .ref (ad 0 0)), (1, .int (jI (o))), (2, .int (jI ((j : Int))))] := hl
  refine lv_aload_n X.1 X.2.1 dc_C_holdOf_0 rfl (lv_at hl 0 rfl) ?_
  refine cx_get (v := .ref (ad 9 0)) X B (wC_0 u ad S sc) rfl uw_C 6 (by decide) gf_C_32 rfl dc_C_holdOf_1 ?_
  refine lv_iload_n X.1 X.2.1 dc_C_holdOf_4 rfl (lv_at hl 1 rfl) ?_
  refine cx_cVM (As := [.int (jI (o))]) (rest := []) X B kc_O_findHolds gm_C_155 (c_O_findHolds l u _ ad S sc hI hP o (by omega) (by omega)) (wC_9 u ad S sc) rfl rfl ⟨(Nat.le_of_ble_eq_true rfl), (Nat.le_of_ble_eq_true rfl)⟩ ⟨(Nat.le_of_ble_eq_true rfl), (Nat.le_of_ble_eq_true rfl)⟩ rfl hl.1 (Nat.le_of_ble_eq_true rfl) dc_C_holdOf_5 rfl (fun H locs w' hw B => ?_)
  obtain ⟨sc1, rfl, g0⟩ := hw
  refine lv_aload_n X.1 X.2.1 dc_C_holdOf_8 rfl (lv_at hl 0 rfl) ?_
  refine cx_get (v := .ref (ad 9 0)) X B (wC_0 u ad S sc1) rfl uw_C 6 (by decide) gf_C_32 rfl dc_C_holdOf_9 ?_
  refine lv_iload_n X.1 X.2.1 dc_C_holdOf_12 rfl (lv_at hl 2 rfl) ?_
  refine cx_cVN (r := .long (jL (sc1 2 j))) (As := [.int (jI ((j : Int)))]) (rest := []) X B kc_O_found gm_C_207 (c_O_found l u ad S sc1 hI (j : Int) (by omega) (by omega)) (fun _ _ _ h => h) (wC_9 u ad S sc1) rfl rfl ⟨(Nat.le_of_ble_eq_true rfl), (Nat.le_of_ble_eq_true rfl)⟩ ⟨(Nat.le_of_ble_eq_true rfl), (Nat.le_of_ble_eq_true rfl)⟩ rfl hl.1 (Nat.le_of_ble_eq_true rfl) dc_C_holdOf_13 rfl ?_
  exact cx_lretM X B hsz hr hlk (Nat.le_of_ble_eq_true rfl) (Nat.le_of_ble_eq_true rfl) (by rw [g0 j hj]) ⟨_, rfl⟩ dc_C_holdOf_16
set_option maxHeartbeats 4000000 in
set_option maxRecDepth 100000 in
theorem c_C_hold (l : Launch) (u : cx_U) (sz : Nat) (ad : Nat → Nat → Nat) (S : cs_S) (sc : Nat → Nat → Int) (hI : cs_I S) (hP : cs_P S) (a b : Int) (a1 : -2147483648 ≤ a) (a2 : a ≤ 2147483647) (b1 : -2147483648 ≤ b) (b2 : b ≤ 2147483647) : cx_M l u mn_C_hold bc_C_hold 3 (some .long) 4 129 [.ref (ad 0 0), .int (jI (a)), .int (jI (b))] (wC u ad S sc) sz (some (.long (jL (cs_holdQ S a b)))) (fun w' => ∃ sc', w' = wC u ad S sc') 0 0 := by
  refine cx_M.of (by decide +kernel) (Nat.le_of_ble_eq_true rfl) ?_
  intro p e s m args below meth c ls hsz X hr hlk hin B hl
  have X : CallFix p m c bc_C_hold 3 s args GW "CatchShares" := X
  have hl : lv_has ls 3 [(0, .ref (ad 0 0)), (1, .int (jI (a))), (2, .int (jI (b)))] := hl
  have hI1 := hI.1
  refine lv_iload_n X.1 X.2.1 dc_C_hold_0 rfl (lv_at hl 1 rfl) ?_
  refine cx_cSN (r := .int (jI (jB (0 ≤ a ∧ a < 10)))) (As := [.int (jI (a))]) (rest := []) X B kc_C_isOwner gm_C_58 (c_C_isOwner l u _ a (by omega) (by omega)) (fun _ _ _ h => h) ⟨(Nat.le_of_ble_eq_true rfl), (Nat.le_of_ble_eq_true rfl)⟩ ⟨(Nat.le_of_ble_eq_true rfl), (Nat.le_of_ble_eq_true rfl)⟩ rfl hl.1 (Nat.le_of_ble_eq_true rfl) dc_C_hold_1 rfl ?_
  refine cx_ifeqB (tgt := 14) X dc_C_hold_4 (by decide) (fun c_1 => ?_) (fun c_1 => ?_)
  · refine cx_ldc2 (a := -1) X gk_C_101 (by decide +kernel) dc_C_hold_14 ?_
    exact cx_lretM X B hsz hr hlk (Nat.le_of_ble_eq_true rfl) (Nat.le_of_ble_eq_true rfl) (by rw [cs_holdQ, if_neg (by omega)]) ⟨_, rfl⟩ dc_C_hold_17
  · refine lv_iload_n X.1 X.2.1 dc_C_hold_7 rfl (lv_at hl 2 rfl) ?_
    refine cx_cSN (r := .int (jI (jB (0 ≤ b ∧ b < 10)))) (As := [.int (jI (b))]) (rest := []) X B kc_C_isOwner gm_C_58 (c_C_isOwner l u _ b (by omega) (by omega)) (fun _ _ _ h => h) ⟨(Nat.le_of_ble_eq_true rfl), (Nat.le_of_ble_eq_true rfl)⟩ ⟨(Nat.le_of_ble_eq_true rfl), (Nat.le_of_ble_eq_true rfl)⟩ rfl hl.1 (Nat.le_of_ble_eq_true rfl) dc_C_hold_8 rfl ?_
    refine cx_ifneB (tgt := 18) X dc_C_hold_11 (by decide) (fun c_2 => ?_) (fun c_2 => ?_)
    · obtain ⟨j, rfl⟩ : ∃ j : Nat, b = (j : Int) := ⟨b.toNat, by omega⟩
      refine lv_aload_n X.1 X.2.1 dc_C_hold_18 rfl (lv_at hl 0 rfl) ?_
      refine lv_iload_n X.1 X.2.1 dc_C_hold_19 rfl (lv_at hl 1 rfl) ?_
      refine lv_iload_n X.1 X.2.1 dc_C_hold_20 rfl (lv_at hl 2 rfl) ?_
      refine cx_cVM (As := [.int (jI (a)), .int (jI ((j : Int)))]) (rest := []) X B kc_C_holdOf gm_C_144 (c_C_holdOf l u _ ad S sc hI hP a j (by omega) (by omega) (by omega)) (wC_0 u ad S sc) rfl rfl ⟨(Nat.le_of_ble_eq_true rfl), (Nat.le_of_ble_eq_true rfl)⟩ ⟨(Nat.le_of_ble_eq_true rfl), (Nat.le_of_ble_eq_true rfl)⟩ rfl hl.1 (Nat.le_of_ble_eq_true rfl) dc_C_hold_21 rfl (fun H locs w' hw B => ?_)
      obtain ⟨sc1, rfl⟩ := hw
      exact cx_lretM X B hsz hr hlk (Nat.le_of_ble_eq_true rfl) (Nat.le_of_ble_eq_true rfl) (by rw [cs_holdQ, if_pos (by omega)]; rfl) ⟨_, rfl⟩ dc_C_hold_24
    · refine cx_ldc2 (a := -1) X gk_C_101 (by decide +kernel) dc_C_hold_14 ?_
      exact cx_lretM X B hsz hr hlk (Nat.le_of_ble_eq_true rfl) (Nat.le_of_ble_eq_true rfl) (by rw [cs_holdQ, if_neg (by omega)]) ⟨_, rfl⟩ dc_C_hold_17
