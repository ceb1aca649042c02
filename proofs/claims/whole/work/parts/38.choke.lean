theorem cx_ofWF {l : Launch} {y : MethodName} {ws ws' : List Cond} {rm : Room} {Pc : Array Value → State → Prop} {Qc : Array Value → State → Outcome → State → Prop} {mc ms : Nat} {free : Addr → Prop} {cc : ByteArray} {maxL : Nat} {ret : Option FieldType} (hy : plainFor y = true) (hw : ws = Cond.code y cc maxL ret :: ws')
    (body : ∀ p e s m args below meth c s₁, BodyLoose p l y (headSpec ws rm) cc maxL ret e s m args below meth c s₁ → c.maxLocals = maxL → Pc args s →
      W p l e (headSpec ws rm).room s m args below meth c s.heap [] 0 0 (MQ below Qc args s mc ms free) (entryFrame m args maxL)) : Met l y ws rm Pc Qc mc ms free := by
  refine MetFree.of_bodySF (code := cc) (maxLocals := maxL) (ret := ret) hy ?_ ?_
  · intro args s m h hn
    obtain ⟨meth, c, h1, h2, h3, h4, h5, h6, -, -⟩ := Cond.code_spec hn (atoms_spec (ws := ws) h _ (by rw [hw]; exact List.mem_cons_self))
    exact ⟨meth, c, h1, h2, h3, h4, h5, h6⟩
  · intro p e s m args below meth c s₁ B hml hP _
    have hh0 : s₁.heap = s.heap := by rw [B.state]; rfl
    obtain ⟨t, a1, o, b1, b2, b3⟩ := body p e s m args below meth c s₁ B hml hP s₁ hh0 (Stand.of_body B)
    exact ⟨t, o, a1, b1, b2, ⟨b3.1, b3.2⟩⟩
theorem cx_N.ofJ {l : Launch} {u : cx_U} {y : MethodName} {cc : ByteArray} {maxL : Nat} {ret : Option FieldType} {fr lo : Nat} {av : List Value} {w : cx_W} {r : Value} (hy : plainFor y = true) (hlen : (lg_sl av).length ≤ maxL)
    (body : ∀ (p : Program) (e : Env) (s : State) (m : MethodId) (args : Array Value) (below : List Frame) (meth : Method) (c : Code) (ls : Array Slot) (A : Nat → Prop), CallFix p m c cc maxL s args GW y.cls → meth.sig.returnType = ret → meth.locks = false → cx_B u A w s s.heap [] → lv_has ls maxL (lv_args 0 av) →
      W p l e (cx_R fr lo 0 0) s m args below meth c s.heap [] 0 0 (MQ below (fun _ st oc t => oc = .returned (some r) ∧ t.heap = st.heap) args s 0 0 (fun _ => False)) (F0 m 0 ls [])) : cx_N l u y cc maxL ret fr lo av w r := by
  refine cx_ofWF (cc := cc) (maxL := maxL) (ret := ret) hy rfl ?_
  intro p e s m args below meth c s₁ B hml hv
  obtain ⟨rfl, hV⟩ := hv
  have hown : s.vm.findClass y.cls = some m.cls := findClass_of_methodNamed B.named
  have hl := lv_entry av (n := maxL) hlen
  have hts := atoms_spec (ws := .code y cc maxL ret :: GW) B.pre
  rw [lg_entry_eq]
  exact body p e s m _ below meth c _ (fun _ => True) ⟨B.exec, B.bytes, hml, hown, fun x hx => hts x (List.mem_cons_of_mem _ hx)⟩ B.returns B.notSynchronized ⟨hV.1, hV.2.1, hV.2.2.1, va_S.rf, fun _ _ => trivial, hV.2.2.2⟩ hl
theorem cs_td {x y : Int} (hy : 0 < y) : x.tdiv y = x / y + (if 0 ≤ x ∨ y ∣ x then 0 else 1) := by
  rw [Int.tdiv_eq_ediv, Int.sign_eq_one_of_pos hy]
theorem cs_tm {x y : Int} (hy : 0 < y) : x.tmod y = x % y - (if 0 ≤ x ∨ y ∣ x then 0 else y) := by
  rw [Int.tmod_eq_emod]
  by_cases h : 0 ≤ x ∨ y ∣ x
  · rw [if_pos h, if_pos h]; rfl
  · rw [if_neg h, if_neg h]; omega
theorem cs_de {x y : Int} (hy : 0 < y) : x = y * (x / y) + x % y ∧ 0 ≤ x % y ∧ x % y < y := ⟨(Int.mul_ediv_add_emod x y).symm, Int.emod_nonneg x (by omega), Int.emod_lt_of_pos x hy⟩
theorem cs_dv {x y : Int} (hy : 0 < y) : y ∣ x ↔ x % y = 0 := Int.dvd_iff_emod_eq_zero
theorem cs_fl {x y : Int} (hy : 0 < y) : (0 ≤ x → 0 ≤ x / y ∧ x / y ≤ x) ∧ (x < 0 → x ≤ x / y ∧ x / y < 0) := by
  obtain ⟨h1, h2, h3⟩ := cs_de (x := x) hy
  refine ⟨fun h => cs_div_b h hy, fun h => ⟨?_, Int.ediv_neg_of_neg_of_pos h hy⟩⟩
  have h4 : x / y < 0 := Int.ediv_neg_of_neg_of_pos h hy
  have h5 : y * (x / y) ≤ 1 * (x / y) := Int.mul_le_mul_of_nonpos_right (by omega) (by omega)
  rcases Int.lt_or_le (x / y) x with h6 | h6
  · exfalso
    have h7 : y * (x / y) = x - x % y := by omega
    have h8 : y * (x / y + 1) ≤ 1 * (x / y + 1) := Int.mul_le_mul_of_nonpos_right (by omega) (by omega)
    rw [Int.mul_add] at h8
    omega
  · exact h6
theorem jL_divT {a b : Int} (h1 : -9223372036854775808 ≤ a) (h2 : a ≤ 9223372036854775807) (h3 : 0 < b) (h4 : b ≤ 9223372036854775807) : jL a / jL b = jL (a.tdiv b) := by
  have hq := cs_fl (x := a) h3
  have ht := cs_td (x := a) h3
  have hr : -9223372036854775808 ≤ a.tdiv b ∧ a.tdiv b ≤ 9223372036854775807 := by
    rw [ht]
    split <;> omega
  rw [← Int64.toInt_inj, Int64.toInt_div_of_ne_right _ _ (fun h => by
    have h9 : (jL b).toInt = -1 := by rw [h]; decide +kernel
    rw [jL_T (by omega) h4] at h9
    omega), jL_T h1 h2, jL_T (by omega) h4, jL_T hr.1 hr.2]
theorem jL_remT {a b : Int} (h1 : -9223372036854775808 ≤ a) (h2 : a ≤ 9223372036854775807) (h3 : 0 < b) (h4 : b ≤ 9223372036854775807) : jL a - jL a / jL b * jL b = jL (a.tmod b) := by
  rw [jL_divT h1 h2 h3 h4, jL_mul, jL_sub, Int.tmod_def, Int.mul_comm]
theorem cs_xs {x y : Int} (h1 : -9223372036854775808 ≤ x) (h2 : x ≤ 9223372036854775807) (h3 : 0 < y) (h4 : y ≤ 9223372036854775807) : (0 ≤ lg_cmp (jL x ^^^ jL y) (jL 0)) ↔ 0 ≤ x := by
  rw [lg_cmp_ge, Int64.le_iff_toInt_le, jL_T (by omega) (by omega)]
  have g0 : (jL x ^^^ jL y).toBitVec.msb = ((jL x).toBitVec.msb ^^ (jL y).toBitVec.msb) := by rw [Int64.toBitVec_xor, BitVec.msb_xor]
  have g1 : (jL x ^^^ jL y).toBitVec.msb = decide ((jL x ^^^ jL y).toInt < 0) := BitVec.msb_eq_toInt
  have g2 : (jL x).toBitVec.msb = decide ((jL x).toInt < 0) := BitVec.msb_eq_toInt
  have g3 : (jL y).toBitVec.msb = decide ((jL y).toInt < 0) := BitVec.msb_eq_toInt
  rw [jL_T h1 h2] at g2
  rw [jL_T (by omega) h4, decide_eq_false (by omega)] at g3
  rw [g1, g2, g3, Bool.xor_false] at g0
  have g4 := decide_eq_decide.mp g0
  omega
set_option maxHeartbeats 4000000 in
set_option maxRecDepth 100000 in
theorem c_J_floorDiv (l : Launch) (u : cx_U) (w : cx_W) (x y : Int) (x1 : -9223372036854775808 ≤ x) (x2 : x ≤ 9223372036854775807) (y1 : 0 < y) (y2 : y ≤ 9223372036854775807) : cx_N l u mn_J_floorDiv bc_J_floorDiv 6 (some .long) 0 0 [.long (jL (x)), .long (jL (y))] (w) (.long (jL (x / y))) := by
  refine cx_N.ofJ (by decide +kernel) (Nat.le_of_ble_eq_true rfl) ?_
  intro p e s m args below meth c ls A X hr hlk B hl
  have X : CallFix p m c bc_J_floorDiv 6 s args GW "java/lang/Math" := X
  have hl : lv_has ls 6 [(0, .long (jL (x))), (2, .long (jL (y)))] := hl
  have hde := cs_de (x := x) y1
  have hfl := cs_fl (x := x) y1
  have htd := cs_td (x := x) y1
  have htm := cs_tm (x := x) y1
  have hdv := cs_dv (x := x) y1
  refine lv_lload_n X.1 X.2.1 dc_J_floorDiv_0 rfl (lv_at hl 0 rfl) ?_
  refine lv_lload_n X.1 X.2.1 dc_J_floorDiv_1 rfl (lv_at hl 1 rfl) ?_
  refine lv_ldiv X.1 X.2.1 dc_J_floorDiv_2 (jL_ne0 (by omega) (by omega) y2) ?_
  rw [jL_divT x1 x2 y1 y2]
  refine lv_lstore (lv' := [(4, .long (jL (x.tdiv y))), (0, .long (jL (x))), (2, .long (jL (y)))]) X.1 X.2.1 dc_J_floorDiv_3 hl (by decide) rfl (fun ls hl => ?_)
  refine lv_lload_n X.1 X.2.1 dc_J_floorDiv_5 rfl (lv_at hl 1 rfl) ?_
  refine lv_lload_n X.1 X.2.1 dc_J_floorDiv_6 rfl (lv_at hl 2 rfl) ?_
  refine lv_lxor X.1 X.2.1 dc_J_floorDiv_7 ?_
  refine cx_lconst (a := 0) X dc_J_floorDiv_8 (by decide +kernel) ?_
  refine W.lcmp X.1 X.2.1 dc_J_floorDiv_9 ?_
  refine lv_if_ge (tgt := 27) X.1 X.2.1 dc_J_floorDiv_10 (by decide) (fun c0 => ?_) (fun c0 => ?_)
  · have c1 : 0 ≤ x := (cs_xs x1 x2 y1 y2).mp c0
    rw [if_pos (Or.inl c1)] at htd htm
    refine lv_lload X.1 X.2.1 dc_J_floorDiv_27 (lv_at hl 0 rfl) ?_
    exact cx_lretN X hr hlk (by congr 2; omega) dc_J_floorDiv_29
  · have c1 : x < 0 := by have := not_congr (cs_xs x1 x2 y1 y2) |>.mp c0; omega
    refine lv_lload X.1 X.2.1 dc_J_floorDiv_13 (lv_at hl 0 rfl) ?_
    refine lv_lload_n X.1 X.2.1 dc_J_floorDiv_15 rfl (lv_at hl 2 rfl) ?_
    refine cx_lmul X dc_J_floorDiv_16 ?_
    refine lv_lload_n X.1 X.2.1 dc_J_floorDiv_17 rfl (lv_at hl 1 rfl) ?_
    by_cases hd : y ∣ x
    · rw [if_pos (Or.inr hd)] at htd htm
      have hz : x % y = 0 := hdv.mp hd
      have hm : x.tdiv y * y = x := by rw [htd, Int.add_zero, Int.mul_comm]; omega
      refine cx_lcmp_eq (tgt := 27) X (by omega) (by omega) (by omega) (by omega) dc_J_floorDiv_18 dc_J_floorDiv_19 (by decide) (fun c_1 => ?_) (fun c_1 => by exfalso; omega)
      refine lv_lload X.1 X.2.1 dc_J_floorDiv_27 (lv_at hl 0 rfl) ?_
      exact cx_lretN X hr hlk (by congr 2; omega) dc_J_floorDiv_29
    · rw [if_neg (fun q => q.elim (fun q => by omega) hd)] at htd htm
      have hz : ¬ x % y = 0 := fun q => hd (hdv.mpr q)
      have hm : x.tdiv y * y = x - x % y + y := by rw [htd, Int.add_mul, Int.mul_comm]; omega
      refine cx_lcmp_eq (tgt := 27) X (by omega) (by omega) (by omega) (by omega) dc_J_floorDiv_18 dc_J_floorDiv_19 (by decide) (fun c_2 => by exfalso; omega) (fun c_2 => ?_)
      refine lv_lload X.1 X.2.1 dc_J_floorDiv_22 (lv_at hl 0 rfl) ?_
      refine cx_lconst (a := 1) X dc_J_floorDiv_24 (by decide +kernel) ?_
      refine cx_lsub X dc_J_floorDiv_25 ?_
      exact cx_lretN X hr hlk (by congr 2; omega) dc_J_floorDiv_26
set_option maxHeartbeats 4000000 in
set_option maxRecDepth 100000 in
theorem c_J_floorMod (l : Launch) (u : cx_U) (w : cx_W) (x y : Int) (x1 : -9223372036854775808 ≤ x) (x2 : x ≤ 9223372036854775807) (y1 : 0 < y) (y2 : y ≤ 9223372036854775807) : cx_N l u mn_J_floorMod bc_J_floorMod 6 (some .long) 0 0 [.long (jL (x)), .long (jL (y))] (w) (.long (jL (x % y))) := by
  refine cx_N.ofJ (by decide +kernel) (Nat.le_of_ble_eq_true rfl) ?_
  intro p e s m args below meth c ls A X hr hlk B hl
  have X : CallFix p m c bc_J_floorMod 6 s args GW "java/lang/Math" := X
  have hl : lv_has ls 6 [(0, .long (jL (x))), (2, .long (jL (y)))] := hl
  have hde := cs_de (x := x) y1
  have hfl := cs_fl (x := x) y1
  have htd := cs_td (x := x) y1
  have htm := cs_tm (x := x) y1
  have hdv := cs_dv (x := x) y1
  refine lv_lload_n X.1 X.2.1 dc_J_floorMod_0 rfl (lv_at hl 0 rfl) ?_
  refine lv_lload_n X.1 X.2.1 dc_J_floorMod_1 rfl (lv_at hl 1 rfl) ?_
  refine lv_lrem X.1 X.2.1 dc_J_floorMod_2 (jL_ne0 (by omega) (by omega) y2) ?_
  rw [jL_remT x1 x2 y1 y2]
  refine lv_lstore (lv' := [(4, .long (jL (x.tmod y))), (0, .long (jL (x))), (2, .long (jL (y)))]) X.1 X.2.1 dc_J_floorMod_3 hl (by decide) rfl (fun ls hl => ?_)
  refine lv_lload_n X.1 X.2.1 dc_J_floorMod_5 rfl (lv_at hl 1 rfl) ?_
  refine lv_lload_n X.1 X.2.1 dc_J_floorMod_6 rfl (lv_at hl 2 rfl) ?_
  refine lv_lxor X.1 X.2.1 dc_J_floorMod_7 ?_
  refine cx_lconst (a := 0) X dc_J_floorMod_8 (by decide +kernel) ?_
  refine W.lcmp X.1 X.2.1 dc_J_floorMod_9 ?_
  refine lv_if_ge (tgt := 25) X.1 X.2.1 dc_J_floorMod_10 (by decide) (fun c0 => ?_) (fun c0 => ?_)
  · have c1 : 0 ≤ x := (cs_xs x1 x2 y1 y2).mp c0
    rw [if_pos (Or.inl c1)] at htd htm
    refine lv_lload X.1 X.2.1 dc_J_floorMod_25 (lv_at hl 0 rfl) ?_
    exact cx_lretN X hr hlk (by congr 2; omega) dc_J_floorMod_27
  · have c1 : x < 0 := by have := not_congr (cs_xs x1 x2 y1 y2) |>.mp c0; omega
    refine lv_lload X.1 X.2.1 dc_J_floorMod_13 (lv_at hl 0 rfl) ?_
    refine cx_lconst (a := 0) X dc_J_floorMod_15 (by decide +kernel) ?_
    by_cases hd : y ∣ x
    · rw [if_pos (Or.inr hd)] at htd htm
      have hz : x % y = 0 := hdv.mp hd
      have hm : x.tdiv y * y = x := by rw [htd, Int.add_zero, Int.mul_comm]; omega
      refine cx_lcmp_eq (tgt := 25) X (by omega) (by omega) (by omega) (by omega) dc_J_floorMod_16 dc_J_floorMod_17 (by decide) (fun c_1 => ?_) (fun c_1 => by exfalso; omega)
      refine lv_lload X.1 X.2.1 dc_J_floorMod_25 (lv_at hl 0 rfl) ?_
      exact cx_lretN X hr hlk (by congr 2; omega) dc_J_floorMod_27
    · rw [if_neg (fun q => q.elim (fun q => by omega) hd)] at htd htm
      have hz : ¬ x % y = 0 := fun q => hd (hdv.mpr q)
      have hm : x.tdiv y * y = x - x % y + y := by rw [htd, Int.add_mul, Int.mul_comm]; omega
      refine cx_lcmp_eq (tgt := 25) X (by omega) (by omega) (by omega) (by omega) dc_J_floorMod_16 dc_J_floorMod_17 (by decide) (fun c_2 => by exfalso; omega) (fun c_2 => ?_)
      refine lv_lload X.1 X.2.1 dc_J_floorMod_20 (lv_at hl 0 rfl) ?_
      refine lv_lload_n X.1 X.2.1 dc_J_floorMod_22 rfl (lv_at hl 2 rfl) ?_
      refine cx_ladd X dc_J_floorMod_23 ?_
      exact cx_lretN X hr hlk (by congr 2; omega) dc_J_floorMod_24
theorem cs_cross {a b s t : Int} (hs : 0 < s) (ht : 0 < t) : (a / s ≠ b / t → (a * t < b * s ↔ a / s < b / t)) ∧ (a / s = b / t → (a * t < b * s ↔ (a % s) * t < (b % t) * s)) := by
  obtain ⟨ha, ha1, ha2⟩ := cs_de (x := a) hs
  obtain ⟨hb, hb1, hb2⟩ := cs_de (x := b) ht
  have ea : a * t = (a / s) * (s * t) + (a % s) * t := by
    conv => lhs; rw [ha]
    rw [Int.add_mul, Int.mul_comm s (a / s), Int.mul_assoc]
  have eb : b * s = (b / t) * (s * t) + (b % t) * s := by
    conv => lhs; rw [hb]
    rw [Int.add_mul, Int.mul_comm t (b / t), Int.mul_assoc, Int.mul_comm t s]
  have hst : 0 < s * t := Int.mul_pos hs ht
  have p1 : 0 ≤ (a % s) * t := Int.mul_nonneg ha1 (by omega)
  have p2 : (a % s) * t < s * t := Int.mul_lt_mul_of_pos_right ha2 ht
  have p3 : 0 ≤ (b % t) * s := Int.mul_nonneg hb1 (by omega)
  have p4 : (b % t) * s < s * t := by rw [Int.mul_comm s t]; exact Int.mul_lt_mul_of_pos_right hb2 hs
  refine ⟨fun hne => ?_, fun heq => ?_⟩
  · rw [ea, eb]
    rcases Int.lt_or_gt_of_ne hne with h | h
    · have q1 : (a / s + 1) * (s * t) ≤ (b / t) * (s * t) := Int.mul_le_mul_of_nonneg_right (by omega) (by omega)
      rw [Int.add_mul] at q1
      omega
    · have q1 : (b / t + 1) * (s * t) ≤ (a / s) * (s * t) := Int.mul_le_mul_of_nonneg_right (by omega) (by omega)
      rw [Int.add_mul] at q1
      omega
  · rw [ea, eb, heq]
    omega
theorem cs_pr_b {x y : Int} (h1 : 0 ≤ x) (h2 : x ≤ 2000000000) (h3 : 0 ≤ y) (h4 : y ≤ 2000000000) : 0 ≤ x * y ∧ x * y ≤ 4000000000000000000 := by
  refine ⟨Int.mul_nonneg h1 h3, ?_⟩
  have := Int.mul_le_mul h2 h4 h3 (by omega : (0 : Int) ≤ 2000000000)
  omega
set_option maxHeartbeats 4000000 in
set_option maxRecDepth 100000 in
theorem c_C_isScarcer (l : Launch) (u : cx_U) (ad : Nat → Nat → Nat) (S : cs_S) (sc : Nat → Nat → Int) (hI : cs_I S) (i k h : Nat) (hi : (i : Int) < S 0 0 0) (hk : (k : Int) < S 0 0 0) (hh : h < 12) (p1 : 0 < S 21 i h) (p2 : 0 < S 21 k h) : cx_N l u mn_C_isScarcer bc_C_isScarcer 16 (some .boolean) 3 71 [.ref (ad 0 0), .ref (ad 14 i), .ref (ad 14 k), .int (jI ((h : Int)))] (wC u ad S sc) (.int (jI (jB (cs_lf S i h * S 21 k h < cs_lf S k h * S 21 i h)))) := by
  refine cx_N.of (by decide +kernel) (Nat.le_of_ble_eq_true rfl) ?_
  intro p e s m args below meth c ls A X hr hlk B hl
  have X : CallFix p m c bc_C_isScarcer 16 s args GW "CatchShares" := X
  have hl : lv_has ls 16 [(0, .ref (ad 0 0)), (1, .ref (ad 14 i)), (2, .ref (ad 14 k)), (3, .int (jI ((h : Int))))] := hl
  have hI1 := hI.1
  have f1 := cs_lf_b hI i h
  have f2 := cs_lf_b hI k h
  have s1 := hI.2.2.2.2.2.1 i h
  have s2 := hI.2.2.2.2.2.1 k h
  have d1 := cs_fl (x := cs_lf S i h) p1
  have d2 := cs_fl (x := cs_lf S k h) p2
  have e1 := cs_de (x := cs_lf S i h) p1
  have e2 := cs_de (x := cs_lf S k h) p2
  have cr := cs_cross (a := cs_lf S i h) (b := cs_lf S k h) p1 p2
  have m1 := cs_pr_b (x := cs_lf S i h % S 21 i h) (y := S 21 k h) (by omega) (by omega) (by omega) (by omega)
  have m2 := cs_pr_b (x := cs_lf S k h % S 21 k h) (y := S 21 i h) (by omega) (by omega) (by omega) (by omega)
  refine lv_aload_n X.1 X.2.1 dc_C_isScarcer_0 rfl (lv_at hl 1 rfl) ?_
  refine cx_get (v := .ref (ad 16 i)) X B (wC_14 u ad S sc hi) rfl uw_S 3 (by decide) gf_C_103 rfl dc_C_isScarcer_1 ?_
  refine lv_iload_n X.1 X.2.1 dc_C_isScarcer_4 rfl (lv_at hl 3 rfl) ?_
  refine cx_lald X B (wC_16 u ad S sc hi) (h) (by omega) (by omega) (by decide) dc_C_isScarcer_5 ?_
  refine lv_lstore (lv' := [(4, .long (jL (S 21 i h))), (0, .ref (ad 0 0)), (1, .ref (ad 14 i)), (2, .ref (ad 14 k)), (3, .int (jI ((h : Int))))]) X.1 X.2.1 dc_C_isScarcer_6 hl (by decide) rfl (fun ls hl => ?_)
  refine lv_aload_n X.1 X.2.1 dc_C_isScarcer_8 rfl (lv_at hl 3 rfl) ?_
  refine cx_get (v := .ref (ad 16 k)) X B (wC_14 u ad S sc hk) rfl uw_S 3 (by decide) gf_C_103 rfl dc_C_isScarcer_9 ?_
  refine lv_iload_n X.1 X.2.1 dc_C_isScarcer_12 rfl (lv_at hl 4 rfl) ?_
  refine cx_lald X B (wC_16 u ad S sc hk) (h) (by omega) (by omega) (by decide) dc_C_isScarcer_13 ?_
  refine lv_lstore (lv' := [(6, .long (jL (S 21 k h))), (4, .long (jL (S 21 i h))), (0, .ref (ad 0 0)), (1, .ref (ad 14 i)), (2, .ref (ad 14 k)), (3, .int (jI ((h : Int))))]) X.1 X.2.1 dc_C_isScarcer_14 hl (by decide) rfl (fun ls hl => ?_)
  refine lv_lload X.1 X.2.1 dc_C_isScarcer_16 (lv_at hl 1 rfl) ?_
  refine cx_lconst (a := 1) X dc_C_isScarcer_18 (by decide +kernel) ?_
  refine cx_lcmp_lt (tgt := 30) X (by omega) (by omega) (by omega) (by omega) dc_C_isScarcer_19 dc_C_isScarcer_20 (by decide) (fun c_1 => by exfalso; omega) (fun c_1 => ?_)
  refine lv_lload X.1 X.2.1 dc_C_isScarcer_23 (lv_at hl 0 rfl) ?_
  refine cx_lconst (a := 1) X dc_C_isScarcer_25 (by decide +kernel) ?_
  refine cx_lcmp_ge (tgt := 32) X (by omega) (by omega) (by omega) (by omega) dc_C_isScarcer_26 dc_C_isScarcer_27 (by decide) (fun c_2 => ?_) (fun c_2 => by exfalso; omega)
  refine lv_aload_n X.1 X.2.1 dc_C_isScarcer_32 rfl (lv_at hl 2 rfl) ?_
  refine lv_aload_n X.1 X.2.1 dc_C_isScarcer_33 rfl (lv_at hl 3 rfl) ?_
  refine lv_iload_n X.1 X.2.1 dc_C_isScarcer_34 rfl (lv_at hl 5 rfl) ?_
  refine cx_cVN (r := .long (jL (cs_lf S i h))) (As := [.ref (ad 14 i), .int (jI ((h : Int)))]) (rest := []) X B kc_C_leftInAll gm_C_116 (c_C_leftInAll l u ad S sc hI i h hi hh) (fun _ _ _ h => h) (wC_0 u ad S sc) rfl rfl ⟨(Nat.le_of_ble_eq_true rfl), (Nat.le_of_ble_eq_true rfl)⟩ ⟨(Nat.le_of_ble_eq_true rfl), (Nat.le_of_ble_eq_true rfl)⟩ rfl hl.1 (Nat.le_of_ble_eq_true rfl) dc_C_isScarcer_35 rfl ?_
  refine lv_lstore (lv' := [(8, .long (jL (cs_lf S i h))), (6, .long (jL (S 21 k h))), (4, .long (jL (S 21 i h))), (0, .ref (ad 0 0)), (1, .ref (ad 14 i)), (2, .ref (ad 14 k)), (3, .int (jI ((h : Int))))]) X.1 X.2.1 dc_C_isScarcer_38 hl (by decide) rfl (fun ls hl => ?_)
  refine lv_aload_n X.1 X.2.1 dc_C_isScarcer_40 rfl (lv_at hl 3 rfl) ?_
  refine lv_aload_n X.1 X.2.1 dc_C_isScarcer_41 rfl (lv_at hl 5 rfl) ?_
  refine lv_iload_n X.1 X.2.1 dc_C_isScarcer_42 rfl (lv_at hl 6 rfl) ?_
  refine cx_cVN (r := .long (jL (cs_lf S k h))) (As := [.ref (ad 14 k), .int (jI ((h : Int)))]) (rest := []) X B kc_C_leftInAll gm_C_116 (c_C_leftInAll l u ad S sc hI k h hk hh) (fun _ _ _ h => h) (wC_0 u ad S sc) rfl rfl ⟨(Nat.le_of_ble_eq_true rfl), (Nat.le_of_ble_eq_true rfl)⟩ ⟨(Nat.le_of_ble_eq_true rfl), (Nat.le_of_ble_eq_true rfl)⟩ rfl hl.1 (Nat.le_of_ble_eq_true rfl) dc_C_isScarcer_43 rfl ?_
  refine lv_lstore (lv' := [(10, .long (jL (cs_lf S k h))), (8, .long (jL (cs_lf S i h))), (6, .long (jL (S 21 k h))), (4, .long (jL (S 21 i h))), (0, .ref (ad 0 0)), (1, .ref (ad 14 i)), (2, .ref (ad 14 k)), (3, .int (jI ((h : Int))))]) X.1 X.2.1 dc_C_isScarcer_46 hl (by decide) rfl (fun ls hl => ?_)
  refine lv_lload X.1 X.2.1 dc_C_isScarcer_48 (lv_at hl 1 rfl) ?_
  refine lv_lload X.1 X.2.1 dc_C_isScarcer_50 (lv_at hl 3 rfl) ?_
  refine cx_cSN (r := .long (jL ((cs_lf S i h) / (S 21 i h)))) (As := [.long (jL (cs_lf S i h)), .long (jL (S 21 i h))]) (rest := []) X B kc_J_floorDiv gm_C_215 (c_J_floorDiv l u _ (cs_lf S i h) (S 21 i h) (by omega) (by omega) (by omega) (by omega)) (fun _ _ _ h => h) ⟨(Nat.le_of_ble_eq_true rfl), (Nat.le_of_ble_eq_true rfl)⟩ ⟨(Nat.le_of_ble_eq_true rfl), (Nat.le_of_ble_eq_true rfl)⟩ rfl hl.1 (Nat.le_of_ble_eq_true rfl) dc_C_isScarcer_52 rfl ?_
  refine lv_lstore (lv' := [(12, .long (jL ((cs_lf S i h) / (S 21 i h)))), (10, .long (jL (cs_lf S k h))), (8, .long (jL (cs_lf S i h))), (6, .long (jL (S 21 k h))), (4, .long (jL (S 21 i h))), (0, .ref (ad 0 0)), (1, .ref (ad 14 i)), (2, .ref (ad 14 k)), (3, .int (jI ((h : Int))))]) X.1 X.2.1 dc_C_isScarcer_55 hl (by decide) rfl (fun ls hl => ?_)
  refine lv_lload X.1 X.2.1 dc_C_isScarcer_57 (lv_at hl 1 rfl) ?_
  refine lv_lload X.1 X.2.1 dc_C_isScarcer_59 (lv_at hl 3 rfl) ?_
  refine cx_cSN (r := .long (jL ((cs_lf S k h) / (S 21 k h)))) (As := [.long (jL (cs_lf S k h)), .long (jL (S 21 k h))]) (rest := []) X B kc_J_floorDiv gm_C_215 (c_J_floorDiv l u _ (cs_lf S k h) (S 21 k h) (by omega) (by omega) (by omega) (by omega)) (fun _ _ _ h => h) ⟨(Nat.le_of_ble_eq_true rfl), (Nat.le_of_ble_eq_true rfl)⟩ ⟨(Nat.le_of_ble_eq_true rfl), (Nat.le_of_ble_eq_true rfl)⟩ rfl hl.1 (Nat.le_of_ble_eq_true rfl) dc_C_isScarcer_61 rfl ?_
  refine lv_lstore (lv' := [(14, .long (jL ((cs_lf S k h) / (S 21 k h)))), (12, .long (jL ((cs_lf S i h) / (S 21 i h)))), (10, .long (jL (cs_lf S k h))), (8, .long (jL (cs_lf S i h))), (6, .long (jL (S 21 k h))), (4, .long (jL (S 21 i h))), (0, .ref (ad 0 0)), (1, .ref (ad 14 i)), (2, .ref (ad 14 k)), (3, .int (jI ((h : Int))))]) X.1 X.2.1 dc_C_isScarcer_64 hl (by decide) rfl (fun ls hl => ?_)
  refine lv_lload X.1 X.2.1 dc_C_isScarcer_66 (lv_at hl 1 rfl) ?_
  refine lv_lload X.1 X.2.1 dc_C_isScarcer_68 (lv_at hl 0 rfl) ?_
  refine cx_lcmp_eq (tgt := 88) X (by omega) (by omega) (by omega) (by omega) dc_C_isScarcer_70 dc_C_isScarcer_71 (by decide) (fun c_3 => ?_) (fun c_3 => ?_)
  · refine lv_lload X.1 X.2.1 dc_C_isScarcer_88 (lv_at hl 3 rfl) ?_
    refine lv_lload X.1 X.2.1 dc_C_isScarcer_90 (lv_at hl 5 rfl) ?_
    refine cx_cSN (r := .long (jL ((cs_lf S i h) % (S 21 i h)))) (As := [.long (jL (cs_lf S i h)), .long (jL (S 21 i h))]) (rest := []) X B kc_J_floorMod gm_C_218 (c_J_floorMod l u _ (cs_lf S i h) (S 21 i h) (by omega) (by omega) (by omega) (by omega)) (fun _ _ _ h => h) ⟨(Nat.le_of_ble_eq_true rfl), (Nat.le_of_ble_eq_true rfl)⟩ ⟨(Nat.le_of_ble_eq_true rfl), (Nat.le_of_ble_eq_true rfl)⟩ rfl hl.1 (Nat.le_of_ble_eq_true rfl) dc_C_isScarcer_92 rfl ?_
    refine lv_lload X.1 X.2.1 dc_C_isScarcer_95 (lv_at hl 4 rfl) ?_
    refine cx_lmul X dc_C_isScarcer_97 ?_
    refine lv_lload X.1 X.2.1 dc_C_isScarcer_98 (lv_at hl 2 rfl) ?_
    refine lv_lload X.1 X.2.1 dc_C_isScarcer_100 (lv_at hl 4 rfl) ?_
    refine cx_cSN (r := .long (jL ((cs_lf S k h) % (S 21 k h)))) (As := [.long (jL (cs_lf S k h)), .long (jL (S 21 k h))]) (rest := [.long (jL (((cs_lf S i h) % (S 21 i h)) * (S 21 k h)))]) X B kc_J_floorMod gm_C_218 (c_J_floorMod l u _ (cs_lf S k h) (S 21 k h) (by omega) (by omega) (by omega) (by omega)) (fun _ _ _ h => h) ⟨(Nat.le_of_ble_eq_true rfl), (Nat.le_of_ble_eq_true rfl)⟩ ⟨(Nat.le_of_ble_eq_true rfl), (Nat.le_of_ble_eq_true rfl)⟩ rfl hl.1 (Nat.le_of_ble_eq_true rfl) dc_C_isScarcer_102 rfl ?_
    refine lv_lload X.1 X.2.1 dc_C_isScarcer_105 (lv_at hl 5 rfl) ?_
    refine cx_lmul X dc_C_isScarcer_107 ?_
    refine cx_lcmp_ge (tgt := 116) X (by omega) (by omega) (by omega) (by omega) dc_C_isScarcer_108 dc_C_isScarcer_109 (by decide) (fun c_4 => ?_) (fun c_4 => ?_)
    · refine cx_iconst X dc_C_isScarcer_116 ?_
      exact cx_zretN X hr hlk (by omega) (by omega) (by rw [jB_f (by rw [cr.2 (by omega)]; omega)]) dc_C_isScarcer_117
    · refine cx_iconst X dc_C_isScarcer_112 ?_
      refine lv_goto (tgt := 117) X.1 X.2.1 dc_C_isScarcer_113 (by decide) ?_
      exact cx_zretN X hr hlk (by omega) (by omega) (by rw [jB_t (by rw [cr.2 (by omega)]; omega)]) dc_C_isScarcer_117
  · refine lv_lload X.1 X.2.1 dc_C_isScarcer_74 (lv_at hl 1 rfl) ?_
    refine lv_lload X.1 X.2.1 dc_C_isScarcer_76 (lv_at hl 0 rfl) ?_
    refine cx_lcmp_ge (tgt := 86) X (by omega) (by omega) (by omega) (by omega) dc_C_isScarcer_78 dc_C_isScarcer_79 (by decide) (fun c_5 => ?_) (fun c_5 => ?_)
    · refine cx_iconst X dc_C_isScarcer_86 ?_
      exact cx_zretN X hr hlk (by omega) (by omega) (by rw [jB_f (by rw [cr.1 (by omega)]; omega)]) dc_C_isScarcer_87
    · refine cx_iconst X dc_C_isScarcer_82 ?_
      refine lv_goto (tgt := 87) X.1 X.2.1 dc_C_isScarcer_83 (by decide) ?_
      exact cx_zretN X hr hlk (by omega) (by omega) (by rw [jB_t (by rw [cr.1 (by omega)]; omega)]) dc_C_isScarcer_87
/-- the stock that chokes among the first ones, or -1 -/
def cs_best (S : cs_S) (h : Nat) : Nat → Int
  | 0 => -1
  | i + 1 => if 0 < S 21 i h ∧ (cs_best S h i < 0 ∨ cs_lf S i h * S 21 (cs_best S h i).toNat h < cs_lf S (cs_best S h i).toNat h * S 21 i h) then (i : Int) else cs_best S h i
theorem cs_best_s (S : cs_S) (h i : Nat) : cs_best S h (i + 1) = if 0 < S 21 i h ∧ (cs_best S h i < 0 ∨ cs_lf S i h * S 21 (cs_best S h i).toNat h < cs_lf S (cs_best S h i).toNat h * S 21 i h) then (i : Int) else cs_best S h i := rfl
theorem cs_best_b (S : cs_S) (h i : Nat) : cs_best S h i = -1 ∨ ∃ k : Nat, cs_best S h i = (k : Int) ∧ k < i ∧ 0 < S 21 k h := by
  induction i with
  | zero => exact Or.inl rfl
  | succ i ih =>
    rw [cs_best_s]
    split
    · rename_i q
      exact Or.inr ⟨i, rfl, by omega, q.1⟩
    · rcases ih with q | ⟨k, q1, q2, q3⟩
      · exact Or.inl q
      · exact Or.inr ⟨k, q1, by omega, q3⟩
def cs_chokeQ (S : cs_S) (a : Int) : Int := if 0 ≤ a ∧ a < S 1 0 0 then cs_best S a.toNat (S 0 0 0).toNat else -1
def cs_cv (ad : Nat → Nat → Nat) (b : Int) : Value := if b < 0 then .null else .ref (ad 14 b.toNat)
theorem cs_cv_n (ad : Nat → Nat → Nat) {b : Int} (h : b = -1) : cs_cv ad b = .null := by rw [cs_cv, if_pos (by omega)]
theorem cs_cv_r (ad : Nat → Nat → Nat) {b : Int} {k : Nat} (h : b = (k : Int)) : cs_cv ad b = .ref (ad 14 k) := by rw [cs_cv, if_neg (by omega), h]; rfl
set_option maxHeartbeats 4000000 in
set_option maxRecDepth 100000 in
theorem c_C_choke (l : Launch) (u : cx_U) (ad : Nat → Nat → Nat) (S : cs_S) (sc : Nat → Nat → Int) (hI : cs_I S) (a : Int) (a1 : -2147483648 ≤ a) (a2 : a ≤ 2147483647) : cx_N l u mn_C_choke bc_C_choke 5 (some .int) 4 106 [.ref (ad 0 0), .int (jI (a))] (wC u ad S sc) (.int (jI (cs_chokeQ S a))) := by
  refine cx_N.of (by decide +kernel) (Nat.le_of_ble_eq_true rfl) ?_
  intro p e s m args below meth c ls A X hr hlk B hl
  have X : CallFix p m c bc_C_choke 5 s args GW "CatchShares" := X
  have hl : lv_has ls 5 [(0, .ref (ad 0 0)), (1, .int (jI (a)))] := hl
  have hI1 := hI.1
  refine lv_aload_n X.1 X.2.1 dc_C_choke_0 rfl (lv_at hl 0 rfl) ?_
  refine lv_iload_n X.1 X.2.1 dc_C_choke_1 rfl (lv_at hl 1 rfl) ?_
  refine cx_cVN (r := .int (jI (jB (0 ≤ a ∧ a < S 1 0 0)))) (As := [.int (jI (a))]) (rest := []) X B kc_C_isHolder gm_C_66 (c_C_isHolder l u ad S sc hI a (by omega) (by omega)) (fun _ _ _ h => h) (wC_0 u ad S sc) rfl rfl ⟨(Nat.le_of_ble_eq_true rfl), (Nat.le_of_ble_eq_true rfl)⟩ ⟨(Nat.le_of_ble_eq_true rfl), (Nat.le_of_ble_eq_true rfl)⟩ rfl hl.1 (Nat.le_of_ble_eq_true rfl) dc_C_choke_2 rfl ?_
  refine cx_ifneB (tgt := 10) X dc_C_choke_5 (by decide) (fun c_1 => ?_) (fun c_1 => ?_)
  · obtain ⟨h, rfl⟩ : ∃ h : Nat, a = (h : Int) := ⟨a.toNat, by omega⟩
    refine lv_null X.1 X.2.1 dc_C_choke_10 ?_
    refine lv_astore_nN (lv' := [(2, .null), (0, .ref (ad 0 0)), (1, .int (jI ((h : Int))))]) X.1 X.2.1 dc_C_choke_11 rfl hl (by decide) rfl (fun ls hl => ?_)
    refine cx_iconst X dc_C_choke_12 ?_
    refine lv_istore_n (lv' := [(3, .int (jI (0))), (2, .null), (0, .ref (ad 0 0)), (1, .int (jI ((h : Int))))]) X.1 X.2.1 dc_C_choke_13 rfl hl (by decide) rfl (fun ls hl => ?_)
    have lp_2 : ∀ (n_3 i : Nat) (ls : Array Slot) , (i : Int) ≤ S 0 0 0 → S 0 0 0 - (i : Int) < (n_3 : Int) → lv_has ls 5 [(0, .ref (ad 0 0)), (1, .int (jI ((h : Int)))), (2, cs_cv ad (cs_best S h i)), (3, .int (jI ((i : Int))))] → W p l e (cx_R 4 106 0 0) s m args below meth c s.heap [] 0 0 (MQ below (fun _ st_ oc_ t_ => oc_ = .returned (some (.int (jI (cs_chokeQ S (h : Int))))) ∧ t_.heap = st_.heap) args s 0 0 (fun _ => False)) (F0 m 14 ls []) := by
      intro n_3
      induction n_3 with
      | zero => intro i ls  hi_5 hn_6; exfalso; omega
      | succ n_3 ih_4 =>
        intro i ls  hi_5 hn_6 hl
        refine lv_iload_n X.1 X.2.1 dc_C_choke_14 rfl (lv_at hl 3 rfl) ?_
        rcases cs_best_b S h i with hb | ⟨k, hb, hki, hkp⟩
        · rw [cs_cv_n ad hb] at hl
          refine lv_aload_n X.1 X.2.1 dc_C_choke_15 rfl (lv_at hl 0 rfl) ?_
          refine cx_get (v := .int (jI (S 0 0 0))) X B (wC_0 u ad S sc) rfl uw_C 1 (by decide) gf_C_43 rfl dc_C_choke_16 ?_
          refine cx_icmp_ge (tgt := 70) X (by omega) (by omega) (by omega) (by omega) dc_C_choke_19 (by decide) (fun c_7 => ?_) (fun c_7 => ?_)
          · refine lv_aload_nN X.1 X.2.1 dc_C_choke_70 rfl (lv_at hl 2 rfl) ?_
            refine lv_ifnonnullN X.1 X.2.1 dc_C_choke_71 ?_
            refine cx_iconst X dc_C_choke_74 ?_
            refine lv_goto (tgt := 82) X.1 X.2.1 dc_C_choke_75 (by decide) ?_
            exact cx_iretN X hr hlk (by rw [cs_chokeQ, if_pos (by omega), cs_nn, show (S 0 0 0).toNat = i by omega, hb]) dc_C_choke_82
          · refine lv_aload_n X.1 X.2.1 dc_C_choke_22 rfl (lv_at hl 0 rfl) ?_
            refine lv_iload_n X.1 X.2.1 dc_C_choke_23 rfl (lv_at hl 3 rfl) ?_
            have hi : (i : Int) < S 0 0 0 := by omega
            refine cx_cVN (As := [.int (jI ((i : Int)))]) (rest := []) X B kc_C_findStock gm_C_62 (c_C_findStock l u ad S sc hI i hi) (fun _ _ _ h => h) (wC_0 u ad S sc) rfl rfl ⟨(Nat.le_of_ble_eq_true rfl), (Nat.le_of_ble_eq_true rfl)⟩ ⟨(Nat.le_of_ble_eq_true rfl), (Nat.le_of_ble_eq_true rfl)⟩ rfl hl.1 (Nat.le_of_ble_eq_true rfl) dc_C_choke_24 rfl ?_
            refine lv_astore (lv' := [(4, .ref (ad 14 i)), (0, .ref (ad 0 0)), (1, .int (jI ((h : Int)))), (2, .null), (3, .int (jI ((i : Int))))]) X.1 X.2.1 dc_C_choke_27 hl (by decide) rfl (fun ls hl => ?_)
            refine lv_aload X.1 X.2.1 dc_C_choke_29 (lv_at hl 0 rfl) ?_
            refine lv_ifnull X.1 X.2.1 dc_C_choke_31 ?_
            refine lv_aload X.1 X.2.1 dc_C_choke_34 (lv_at hl 0 rfl) ?_
            refine cx_get (v := .ref (ad 16 i)) X B (wC_14 u ad S sc hi) rfl uw_S 3 (by decide) gf_C_103 rfl dc_C_choke_36 ?_
            refine lv_iload_n X.1 X.2.1 dc_C_choke_39 rfl (lv_at hl 2 rfl) ?_
            refine cx_lald X B (wC_16 u ad S sc hi) (h) (by omega) (by omega) (by decide) dc_C_choke_40 ?_
            have r_8 := hI.2.2.2.2.2.1 i h
            refine cx_lconst (a := 0) X dc_C_choke_41 (by decide +kernel) ?_
            refine cx_lcmp_le (tgt := 64) X (by omega) (by omega) (by omega) (by omega) dc_C_choke_42 dc_C_choke_43 (by decide) (fun c_9 => ?_) (fun c_9 => ?_)
            · refine lv_iinc (v := jI ((i : Int) + 1)) (lv' := [(3, .int (jI ((i : Int) + 1))), (4, .ref (ad 14 i)), (0, .ref (ad 0 0)), (1, .int (jI ((h : Int)))), (2, .null)]) X.1 X.2.1 dc_C_choke_64 hl (k := 4) rfl (jI_add _ _) (by decide) rfl (fun ls hl => ?_)
              refine lv_goto (tgt := 14) X.1 X.2.1 dc_C_choke_67 (by decide) ?_
              have qq : cs_best S h (i + 1) = -1 := by rw [cs_best_s, if_neg (by omega), hb]
              have q2 := cs_cv_n ad qq
              exact ih_4 (i + 1) ls  (by omega) (by omega) (by rw [q2]; exact lv_sub hl [2, 3, 4, 0] rfl)
            · refine lv_aload_nN X.1 X.2.1 dc_C_choke_46 rfl (lv_at hl 3 rfl) ?_
              refine lv_ifnullN (tgt := 61) X.1 X.2.1 dc_C_choke_47 (by decide) ?_
              refine lv_aload X.1 X.2.1 dc_C_choke_61 (lv_at hl 0 rfl) ?_
              refine lv_astore_n (lv' := [(2, .ref (ad 14 i)), (4, .ref (ad 14 i)), (0, .ref (ad 0 0)), (1, .int (jI ((h : Int)))), (3, .int (jI ((i : Int))))]) X.1 X.2.1 dc_C_choke_63 rfl hl (by decide) rfl (fun ls hl => ?_)
              refine lv_iinc (v := jI ((i : Int) + 1)) (lv' := [(3, .int (jI ((i : Int) + 1))), (2, .ref (ad 14 i)), (4, .ref (ad 14 i)), (0, .ref (ad 0 0)), (1, .int (jI ((h : Int))))]) X.1 X.2.1 dc_C_choke_64 hl (k := 4) rfl (jI_add _ _) (by decide) rfl (fun ls hl => ?_)
              refine lv_goto (tgt := 14) X.1 X.2.1 dc_C_choke_67 (by decide) ?_
              have qq : cs_best S h (i + 1) = (i : Int) := by rw [cs_best_s, if_pos ⟨by omega, Or.inl (by omega)⟩]
              have q2 := cs_cv_r ad qq
              exact ih_4 (i + 1) ls  (by omega) (by omega) (by rw [q2]; exact lv_sub hl [3, 4, 1, 0] rfl)
        · rw [cs_cv_r ad hb] at hl
          have hk : (k : Int) < S 0 0 0 := by omega
          refine lv_aload_n X.1 X.2.1 dc_C_choke_15 rfl (lv_at hl 0 rfl) ?_
          refine cx_get (v := .int (jI (S 0 0 0))) X B (wC_0 u ad S sc) rfl uw_C 1 (by decide) gf_C_43 rfl dc_C_choke_16 ?_
          refine cx_icmp_ge (tgt := 70) X (by omega) (by omega) (by omega) (by omega) dc_C_choke_19 (by decide) (fun c_10 => ?_) (fun c_10 => ?_)
          · refine lv_aload_n X.1 X.2.1 dc_C_choke_70 rfl (lv_at hl 2 rfl) ?_
            refine lv_ifnonnull (tgt := 78) X.1 X.2.1 dc_C_choke_71 (by decide) ?_
            refine lv_aload_n X.1 X.2.1 dc_C_choke_78 rfl (lv_at hl 2 rfl) ?_
            refine cx_get (v := .int (jI ((k : Int)))) X B (wC_14 u ad S sc hk) rfl uw_S 0 (by decide) gf_C_167 rfl dc_C_choke_79 ?_
            exact cx_iretN X hr hlk (by rw [cs_chokeQ, if_pos (by omega), cs_nn, show (S 0 0 0).toNat = i by omega, hb]) dc_C_choke_82
          · refine lv_aload_n X.1 X.2.1 dc_C_choke_22 rfl (lv_at hl 0 rfl) ?_
            refine lv_iload_n X.1 X.2.1 dc_C_choke_23 rfl (lv_at hl 3 rfl) ?_
            have hi : (i : Int) < S 0 0 0 := by omega
            refine cx_cVN (As := [.int (jI ((i : Int)))]) (rest := []) X B kc_C_findStock gm_C_62 (c_C_findStock l u ad S sc hI i hi) (fun _ _ _ h => h) (wC_0 u ad S sc) rfl rfl ⟨(Nat.le_of_ble_eq_true rfl), (Nat.le_of_ble_eq_true rfl)⟩ ⟨(Nat.le_of_ble_eq_true rfl), (Nat.le_of_ble_eq_true rfl)⟩ rfl hl.1 (Nat.le_of_ble_eq_true rfl) dc_C_choke_24 rfl ?_
            refine lv_astore (lv' := [(4, .ref (ad 14 i)), (0, .ref (ad 0 0)), (1, .int (jI ((h : Int)))), (2, .ref (ad 14 k)), (3, .int (jI ((i : Int))))]) X.1 X.2.1 dc_C_choke_27 hl (by decide) rfl (fun ls hl => ?_)
            refine lv_aload X.1 X.2.1 dc_C_choke_29 (lv_at hl 0 rfl) ?_
            refine lv_ifnull X.1 X.2.1 dc_C_choke_31 ?_
            refine lv_aload X.1 X.2.1 dc_C_choke_34 (lv_at hl 0 rfl) ?_
            refine cx_get (v := .ref (ad 16 i)) X B (wC_14 u ad S sc hi) rfl uw_S 3 (by decide) gf_C_103 rfl dc_C_choke_36 ?_
            refine lv_iload_n X.1 X.2.1 dc_C_choke_39 rfl (lv_at hl 2 rfl) ?_
            refine cx_lald X B (wC_16 u ad S sc hi) (h) (by omega) (by omega) (by decide) dc_C_choke_40 ?_
            have r_11 := hI.2.2.2.2.2.1 i h
            refine cx_lconst (a := 0) X dc_C_choke_41 (by decide +kernel) ?_
            refine cx_lcmp_le (tgt := 64) X (by omega) (by omega) (by omega) (by omega) dc_C_choke_42 dc_C_choke_43 (by decide) (fun c_12 => ?_) (fun c_12 => ?_)
            · refine lv_iinc (v := jI ((i : Int) + 1)) (lv' := [(3, .int (jI ((i : Int) + 1))), (4, .ref (ad 14 i)), (0, .ref (ad 0 0)), (1, .int (jI ((h : Int)))), (2, .ref (ad 14 k))]) X.1 X.2.1 dc_C_choke_64 hl (k := 4) rfl (jI_add _ _) (by decide) rfl (fun ls hl => ?_)
              refine lv_goto (tgt := 14) X.1 X.2.1 dc_C_choke_67 (by decide) ?_
              have qq : cs_best S h (i + 1) = (k : Int) := by rw [cs_best_s, if_neg (fun q => by have q3 := q.2; rw [hb] at q3; simp only [cs_nn] at q3; omega), hb]
              have q2 := cs_cv_r ad qq
              exact ih_4 (i + 1) ls  (by omega) (by omega) (by rw [q2]; exact lv_sub hl [2, 3, 4, 0] rfl)
            · refine lv_aload_n X.1 X.2.1 dc_C_choke_46 rfl (lv_at hl 3 rfl) ?_
              refine lv_ifnull X.1 X.2.1 dc_C_choke_47 ?_
              refine lv_aload_n X.1 X.2.1 dc_C_choke_50 rfl (lv_at hl 1 rfl) ?_
              refine lv_aload X.1 X.2.1 dc_C_choke_51 (lv_at hl 0 rfl) ?_
              refine lv_aload_n X.1 X.2.1 dc_C_choke_53 rfl (lv_at hl 3 rfl) ?_
              refine lv_iload_n X.1 X.2.1 dc_C_choke_54 rfl (lv_at hl 2 rfl) ?_
              refine cx_cVN (r := .int (jI (jB (cs_lf S i h * S 21 k h < cs_lf S k h * S 21 i h)))) (As := [.ref (ad 14 i), .ref (ad 14 k), .int (jI ((h : Int)))]) (rest := []) X B kc_C_isScarcer gm_C_163 (c_C_isScarcer l u ad S sc hI i k h hi hk (by omega) (by omega) (by omega)) (fun _ _ _ h => h) (wC_0 u ad S sc) rfl rfl ⟨(Nat.le_of_ble_eq_true rfl), (Nat.le_of_ble_eq_true rfl)⟩ ⟨(Nat.le_of_ble_eq_true rfl), (Nat.le_of_ble_eq_true rfl)⟩ rfl hl.1 (Nat.le_of_ble_eq_true rfl) dc_C_choke_55 rfl ?_
              refine cx_ifeqB (tgt := 64) X dc_C_choke_58 (by decide) (fun c_13 => ?_) (fun c_13 => ?_)
              · refine lv_iinc (v := jI ((i : Int) + 1)) (lv' := [(3, .int (jI ((i : Int) + 1))), (4, .ref (ad 14 i)), (0, .ref (ad 0 0)), (1, .int (jI ((h : Int)))), (2, .ref (ad 14 k))]) X.1 X.2.1 dc_C_choke_64 hl (k := 4) rfl (jI_add _ _) (by decide) rfl (fun ls hl => ?_)
                refine lv_goto (tgt := 14) X.1 X.2.1 dc_C_choke_67 (by decide) ?_
                have qq : cs_best S h (i + 1) = (k : Int) := by rw [cs_best_s, if_neg (fun q => by have q3 := q.2; rw [hb] at q3; simp only [cs_nn] at q3; omega), hb]
                have q2 := cs_cv_r ad qq
                exact ih_4 (i + 1) ls  (by omega) (by omega) (by rw [q2]; exact lv_sub hl [2, 3, 4, 0] rfl)
              · refine lv_aload X.1 X.2.1 dc_C_choke_61 (lv_at hl 0 rfl) ?_
                refine lv_astore_n (lv' := [(2, .ref (ad 14 i)), (4, .ref (ad 14 i)), (0, .ref (ad 0 0)), (1, .int (jI ((h : Int)))), (3, .int (jI ((i : Int))))]) X.1 X.2.1 dc_C_choke_63 rfl hl (by decide) rfl (fun ls hl => ?_)
                refine lv_iinc (v := jI ((i : Int) + 1)) (lv' := [(3, .int (jI ((i : Int) + 1))), (2, .ref (ad 14 i)), (4, .ref (ad 14 i)), (0, .ref (ad 0 0)), (1, .int (jI ((h : Int))))]) X.1 X.2.1 dc_C_choke_64 hl (k := 4) rfl (jI_add _ _) (by decide) rfl (fun ls hl => ?_)
                refine lv_goto (tgt := 14) X.1 X.2.1 dc_C_choke_67 (by decide) ?_
                have qq : cs_best S h (i + 1) = (i : Int) := by rw [cs_best_s, if_pos ⟨by omega, Or.inr (by rw [hb]; assumption)⟩]
                have q2 := cs_cv_r ad qq
                exact ih_4 (i + 1) ls  (by omega) (by omega) (by rw [q2]; exact lv_sub hl [3, 4, 1, 0] rfl)
    exact lp_2 ((S 0 0 0 : Int).toNat + 1) 0 ls  (by omega) (by omega) (by rw [show cs_cv ad (cs_best S h 0) = .null from rfl]; exact lv_sub hl [2, 3, 1, 0] rfl)
  · refine cx_iconst X dc_C_choke_8 ?_
    exact cx_iretN X hr hlk (by rw [cs_chokeQ, if_neg (by omega)]) dc_C_choke_9
