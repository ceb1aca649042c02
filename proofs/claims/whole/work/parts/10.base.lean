/-! numbers of the machine as Int -/
def jI (a : Int) : Int32 := Int32.ofInt a
def jL (a : Int) : Int64 := Int64.ofInt a
theorem jI_T {a : Int} (h1 : -2147483648 ≤ a) (h2 : a ≤ 2147483647) : (jI a).toInt = a := Int32.toInt_ofInt_of_le (by omega) (by omega)
theorem jL_T {a : Int} (h1 : -9223372036854775808 ≤ a) (h2 : a ≤ 9223372036854775807) : (jL a).toInt = a := Int64.toInt_ofInt_of_le (by omega) (by omega)
theorem jI_S (x : Int32) : jI x.toInt = x := Int32.ofInt_toInt x
theorem jL_S (x : Int64) : jL x.toInt = x := Int64.ofInt_toInt x
theorem jI_R (x : Int32) : ∃ a : Int, -2147483648 ≤ a ∧ a ≤ 2147483647 ∧ x = jI a := ⟨x.toInt, by have := Int32.le_toInt x; omega, by have := Int32.toInt_lt x; omega, (jI_S x).symm⟩
theorem jL_R (x : Int64) : ∃ a : Int, -9223372036854775808 ≤ a ∧ a ≤ 9223372036854775807 ∧ x = jL a := ⟨x.toInt, by have := Int64.le_toInt x; omega, by have := Int64.toInt_lt x; omega, (jL_S x).symm⟩
theorem jI_add (a b : Int) : jI a + jI b = jI (a + b) := (Int32.ofInt_add a b).symm
theorem jI_sub (a b : Int) : jI a - jI b = jI (a - b) := (Int32.ofInt_sub a b).symm
theorem jI_mul (a b : Int) : jI a * jI b = jI (a * b) := (Int32.ofInt_mul a b).symm
theorem jI_neg (a : Int) : - jI a = jI (-a) := (Int32.ofInt_neg a).symm
theorem jL_add (a b : Int) : jL a + jL b = jL (a + b) := (Int64.ofInt_add a b).symm
theorem jL_sub (a b : Int) : jL a - jL b = jL (a - b) := (Int64.ofInt_sub a b).symm
theorem jL_mul (a b : Int) : jL a * jL b = jL (a * b) := (Int64.ofInt_mul a b).symm
theorem jL_neg (a : Int) : - jL a = jL (-a) := (Int64.ofInt_neg a).symm
theorem jI_le {a b : Int} (h1 : -2147483648 ≤ a) (h2 : a ≤ 2147483647) (h3 : -2147483648 ≤ b) (h4 : b ≤ 2147483647) : jI a ≤ jI b ↔ a ≤ b := by rw [Int32.le_iff_toInt_le, jI_T h1 h2, jI_T h3 h4]
theorem jI_lt {a b : Int} (h1 : -2147483648 ≤ a) (h2 : a ≤ 2147483647) (h3 : -2147483648 ≤ b) (h4 : b ≤ 2147483647) : jI a < jI b ↔ a < b := by rw [Int32.lt_iff_toInt_lt, jI_T h1 h2, jI_T h3 h4]
theorem jI_eq {a b : Int} (h1 : -2147483648 ≤ a) (h2 : a ≤ 2147483647) (h3 : -2147483648 ≤ b) (h4 : b ≤ 2147483647) : jI a = jI b ↔ a = b := by rw [← Int32.toInt_inj, jI_T h1 h2, jI_T h3 h4]
theorem jL_le {a b : Int} (h1 : -9223372036854775808 ≤ a) (h2 : a ≤ 9223372036854775807) (h3 : -9223372036854775808 ≤ b) (h4 : b ≤ 9223372036854775807) : jL a ≤ jL b ↔ a ≤ b := by rw [Int64.le_iff_toInt_le, jL_T h1 h2, jL_T h3 h4]
theorem jL_lt {a b : Int} (h1 : -9223372036854775808 ≤ a) (h2 : a ≤ 9223372036854775807) (h3 : -9223372036854775808 ≤ b) (h4 : b ≤ 9223372036854775807) : jL a < jL b ↔ a < b := by rw [Int64.lt_iff_toInt_lt, jL_T h1 h2, jL_T h3 h4]
theorem jL_eq {a b : Int} (h1 : -9223372036854775808 ≤ a) (h2 : a ≤ 9223372036854775807) (h3 : -9223372036854775808 ≤ b) (h4 : b ≤ 9223372036854775807) : jL a = jL b ↔ a = b := by rw [← Int64.toInt_inj, jL_T h1 h2, jL_T h3 h4]
theorem jI_0 : jI 0 = 0 := by decide +kernel
theorem jI_1 : jI 1 = 1 := by decide +kernel
theorem jL_0 : jL 0 = 0 := by decide +kernel
theorem jI_l {a : Int} (h1 : -2147483648 ≤ a) (h2 : a ≤ 2147483647) : (jI a).toInt64 = jL a := by
  rw [← Int64.toInt_inj, Int32.toInt_toInt64, jI_T h1 h2, jL_T (by omega) (by omega)]
theorem jL_div {a b : Int} (h1 : 0 ≤ a) (h2 : a ≤ 9223372036854775807) (h3 : 0 < b) (h4 : b ≤ 9223372036854775807) : jL a / jL b = jL (a / b) := by
  have hq : 0 ≤ a / b := Int.ediv_nonneg h1 (by omega)
  have hq2 : a / b ≤ a := Int.ediv_le_self b h1
  rw [← Int64.toInt_inj, Int64.toInt_div_of_ne_right _ _ (fun h => by
    have h9 : (jL b).toInt = -1 := by rw [h]; decide +kernel
    rw [jL_T (by omega) h4] at h9
    omega), jL_T (by omega) h2, jL_T (by omega) h4, jL_T (by omega) (by omega), Int.tdiv_eq_ediv_of_nonneg h1]
theorem jL_rem {a b : Int} (h1 : 0 ≤ a) (h2 : a ≤ 9223372036854775807) (h3 : 0 < b) (h4 : b ≤ 9223372036854775807) : jL a - jL a / jL b * jL b = jL (a % b) := by
  rw [jL_div h1 h2 h3 h4, jL_mul, jL_sub]
  congr 1
  have := Int.mul_ediv_add_emod a b
  rw [Int.mul_comm] at this
  omega
theorem jL_ne0 {b : Int} (h1 : b ≠ 0) (h3 : -9223372036854775808 ≤ b) (h4 : b ≤ 9223372036854775807) : ¬ jL b = 0 := by
  rw [← jL_0, jL_eq h3 h4 (by omega) (by omega)]
  exact h1
theorem jI_c {a : Int} (h1 : 0 ≤ a) (h2 : a ≤ 2147483647) : (jI a).toNatClampNeg = a.toNat := Int32.toNatClampNeg_ofInt_of_le (by omega) (by omega)
theorem jI_in {a : Int} {n : Nat} (h1 : 0 ≤ a) (h2 : a < n) (h3 : n ≤ 2147483647) : vp_in (jI a) n := by
  rw [vp_in_iff, jI_T (by omega) (by omega)]
  exact ⟨h1, h2⟩
/-- a boolean's number -/
noncomputable def jB (P : Prop) : Int := @ite _ P (Classical.propDecidable P) 1 0
theorem jB_t {P : Prop} (h : P) : jB P = 1 := by unfold jB; exact if_pos h
theorem jB_f {P : Prop} (h : ¬ P) : jB P = 0 := by unfold jB; exact if_neg h
theorem jB_c {P P' : Prop} (h : P ↔ P') : jB P = jB P' := by
  by_cases hp : P
  · rw [jB_t hp, jB_t (h.mp hp)]
  · rw [jB_f hp, jB_f (fun q => hp (h.mpr q))]
theorem jB_r (P : Prop) : 0 ≤ jB P ∧ jB P ≤ 1 := by
  by_cases hp : P
  · rw [jB_t hp]; omega
  · rw [jB_f hp]; omega
/-! worlds by kind and index -/
abbrev cx_W : Type := Nat → Nat → Option (Nat × va_E)
def cx_P (D : va_G) (cl : List vw_C) (w : cx_W) (H : Heap) : Prop := ∀ (k i : Nat) (q : Nat × va_E), w k i = some q → va_at D cl q H
def cx_D (A : Nat → Prop) (w : cx_W) : Prop := (∀ (k i k' i' : Nat) (x y : Nat × va_E), w k i = some x → w k' i' = some y → x.1 = y.1 → k = k' ∧ i = i') ∧ ∀ (k i : Nat) (x : Nat × va_E), w k i = some x → A x.1
def cx_up (w : cx_W) (k i : Nat) (q : Nat × va_E) : cx_W := fun k' i' => if k' = k ∧ i' = i then some q else w k' i'
/-- the cells of a world, and those that come from sz on -/
def cx_A (w : cx_W) (sz : Nat) : Nat → Prop := fun q => (∃ (k i : Nat) (e : va_E), w k i = some (q, e)) ∨ sz ≤ q
theorem cx_up_s (w : cx_W) (k i : Nat) (q : Nat × va_E) : cx_up w k i q k i = some q := if_pos ⟨rfl, rfl⟩
theorem cx_up_n (w : cx_W) {k i k' i' : Nat} (q : Nat × va_E) (h : ¬ (k' = k ∧ i' = i)) : cx_up w k i q k' i' = w k' i' := if_neg h
theorem cx_P.one {D : va_G} {cl : List vw_C} {w : cx_W} {H : Heap} (h : cx_P D cl w H) {k i : Nat} {q : Nat × va_E} (he : w k i = some q) : va_P D cl [q] H := by
  intro j x hx
  have hz : j < 1 := (List.getElem?_eq_some_iff.mp hx).1
  rw [show j = 0 by omega] at hx
  cases hx
  exact h k i q he
theorem cx_P.set {D : va_G} {cl : List vw_C} {A : Nat → Prop} {w : cx_W} {H H1 : Heap} {k i a : Nat} {e0 e : va_E} (h : cx_P D cl w H) (hD : cx_D A w) (he : w k i = some (a, e0)) (ha : va_at D cl (a, e) H1) (oq : ∀ q : Nat, q ≠ a → H1[q]? = H[q]?) : cx_P D cl (cx_up w k i (a, e)) H1 := by
  intro k' i' q hq
  by_cases hk : k' = k ∧ i' = i
  · obtain ⟨rfl, rfl⟩ := hk
    rw [cx_up_s] at hq
    cases hq
    exact ha
  · rw [cx_up_n w _ hk] at hq
    exact (h k' i' q hq).kept (oq q.1 (fun z => hk (hD.1 k' i' k i q (a, e0) hq he z)))
theorem cx_D.set {A : Nat → Prop} {w : cx_W} {k i a : Nat} {e0 e : va_E} (hD : cx_D A w) (he : w k i = some (a, e0)) : cx_D A (cx_up w k i (a, e)) := by
  have key : ∀ (k' i' : Nat) (q : Nat × va_E), cx_up w k i (a, e) k' i' = some q → ∃ q0, w k' i' = some q0 ∧ q0.1 = q.1 := by
    intro k' i' q hq
    by_cases hk : k' = k ∧ i' = i
    · obtain ⟨rfl, rfl⟩ := hk
      rw [cx_up_s] at hq
      cases hq
      exact ⟨_, he, rfl⟩
    · rw [cx_up_n w _ hk] at hq
      exact ⟨q, hq, rfl⟩
  refine ⟨fun k1 i1 k2 i2 x y hx hy hxy => ?_, fun k1 i1 x hx => ?_⟩
  · obtain ⟨x0, h1, h2⟩ := key k1 i1 x hx
    obtain ⟨y0, h3, h4⟩ := key k2 i2 y hy
    exact hD.1 k1 i1 k2 i2 x0 y0 h1 h3 (h2.trans (hxy.trans h4.symm))
  · obtain ⟨x0, h1, h2⟩ := key k1 i1 x hx
    rw [← h2]
    exact hD.2 k1 i1 x0 h1
theorem cx_D.push {A : Nat → Prop} {w : cx_W} {k i a : Nat} {e : va_E} {D : va_G} {cl : List vw_C} {H : Heap} (hD : cx_D A w) (hP : cx_P D cl w H) (ha : a = H.size) (hA : A a) : cx_D A (cx_up w k i (a, e)) := by
  have key : ∀ (k' i' : Nat) (q : Nat × va_E), cx_up w k i (a, e) k' i' = some q → (w k' i' = some q ∧ q.1 < a) ∨ (k' = k ∧ i' = i ∧ q.1 = a) := by
    intro k' i' q hq
    by_cases hk : k' = k ∧ i' = i
    · obtain ⟨rfl, rfl⟩ := hk
      rw [cx_up_s] at hq
      cases hq
      exact Or.inr ⟨rfl, rfl, rfl⟩
    · rw [cx_up_n w _ hk] at hq
      exact Or.inl ⟨hq, by rw [ha]; exact (hP k' i' q hq).lt⟩
  refine ⟨fun k1 i1 k2 i2 x y hx hy hxy => ?_, fun k1 i1 x hx => ?_⟩
  · rcases key k1 i1 x hx with ⟨h1, l1⟩ | ⟨h1, h2, l1⟩ <;> rcases key k2 i2 y hy with ⟨h3, l2⟩ | ⟨h3, h4, l2⟩
    · exact hD.1 k1 i1 k2 i2 x y h1 h3 hxy
    · omega
    · omega
    · exact ⟨h1.trans h3.symm, h2.trans h4.symm⟩
  · rcases key k1 i1 x hx with ⟨h1, -⟩ | ⟨-, -, h1⟩
    · exact hD.2 k1 i1 x h1
    · rw [h1]; exact hA
/-- the two words that are not among the good ones: the rows of Stock, and the call of a nest mate's own method -/
def cx_E (U : State) : Prop := va_AO "CatchShares$Stock" U ∧ va_Nw cx_nl U
theorem cx_E.warm {s U : State} (hW : s.WarmedH U.vm) (h : cx_E s) : cx_E U := ⟨va_AO.moved hW.alike h.1, va_Nw.warmM hW h.2⟩
theorem cx_E.same {s U : State} (hv : s.vm = U.vm) (h : cx_E s) : cx_E U := ⟨va_AO.moved (by rw [hv]; exact Vm.Alike.refl _) h.1, va_Nw.same rfl hv h.2⟩
/-- the tables' numbers of classes and slots; the array classes of int, long, boolean and Stock -/
abbrev cx_U : Type := va_G × (Nat → ClassId)
abbrev cx_ty (E : Nat → ClassId) : List (ClassId × FieldType) := [(E 0, .int), (E 1, .long), (E 2, .boolean), (E 3, .object "CatchShares$Stock")]
/-- all that a walk knows of its world -/
def cx_B (u : cx_U) (A : Nat → Prop) (w : cx_W) (s : State) (H : Heap) (locs : List Loc) : Prop := va_K u.1 vw_cl (cx_ty u.2) s ∧ cx_P u.1 vw_cl w H ∧ cx_D A w ∧ va_S A s.heap H locs ∧ (∀ q, s.heap.size ≤ q → A q) ∧ cx_E s
/-- a world as a contract sees it -/
def cx_V (u : cx_U) (w : cx_W) (U : State) : Prop := va_K u.1 vw_cl (cx_ty u.2) U ∧ cx_P u.1 vw_cl w U.heap ∧ cx_D (fun _ => True) w ∧ cx_E U
theorem cx_V.calling {u : cx_U} {w : cx_W} {U : State} (g : JFrame) (mk : MethodId) (a : Array Value) (h : cx_V u w U) : cx_V u w (U.calling g mk a) := ⟨va_K.moved (u := U) (U := U.calling g mk a) (Vm.Alike.refl U.vm) h.1, h.2.1, h.2.2.1, h.2.2.2.same (U := U.calling g mk a) rfl⟩
theorem cx_D.weaken {A A' : Nat → Prop} {w : cx_W} (h : cx_D A w) (hA : ∀ (k i : Nat) (x : Nat × va_E), w k i = some x → A x.1 → A' x.1) : cx_D A' w := ⟨h.1, fun k i x hx => hA k i x hx (h.2 k i x hx)⟩
/-- what the words say of a method that is called: of an object, static, a constructor -/
def cx_hd (y : MethodName) (n : Nat) : Prop := y.cls ≠ "java/lang/invoke/MethodHandle" ∧ y.cls ≠ "java/lang/invoke/VarHandle" ∧ (parseMethodDescriptor y.desc).map (fun d => d.parameters.length) = some n
def cx_KV (G : List Cond) (y : MethodName) (cc : ByteArray) (maxL : Nat) (ret : Option FieldType) (n : Nat) : Prop := Cond.instanceMethod y ∈ G ∧ Cond.selects y.cls y y ∈ G ∧ Cond.initialized y.cls ∈ G ∧ Cond.code y cc maxL ret ∈ G ∧ cx_hd y n
def cx_KS (G : List Cond) (y : MethodName) (cc : ByteArray) (maxL : Nat) (ret : Option FieldType) (n : Nat) : Prop := Cond.static y ∈ G ∧ Cond.initialized y.cls ∈ G ∧ Cond.code y cc maxL ret ∈ G ∧ cx_hd y n
def cx_KI (G : List Cond) (y : MethodName) (cc : ByteArray) (maxL : Nat) (n : Nat) : Prop := y.name = "<init>" ∧ Cond.instanceMethod y ∈ G ∧ Cond.initialized y.cls ∈ G ∧ Cond.code y cc maxL none ∈ G ∧ cx_hd y n
/-- words of one list among another's, by their places -/
theorem cx_gr {big : List Cond} (ws : List Cond) (ps : List Nat) (hp : ps.filterMap (fun i => big[i]?) = ws) (h : ws.all goodWord = true) : GoodIn big ws := by
  intro x hx
  have h1 := List.all_eq_true.mp h x hx
  rw [← hp] at hx
  obtain ⟨i, -, hi⟩ := List.mem_filterMap.mp hx
  exact ⟨List.mem_of_getElem? hi, good_of_word h1⟩
