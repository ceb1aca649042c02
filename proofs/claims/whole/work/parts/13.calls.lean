/-! contracts over worlds, and calls -/
abbrev cx_R (fr lo mc ms : Nat) : Room := { frames := fr, cells := mc, slots := ms, locals := lo }
/-- a method that changes nothing: from the world w with the values av it answers r -/
def cx_N (l : Launch) (u : cx_U) (y : MethodName) (cc : ByteArray) (maxL : Nat) (ret : Option FieldType) (fr lo : Nat) (av : List Value) (w : cx_W) (r : Value) : Prop :=
  Met l y (.code y cc maxL ret :: GW) (cx_R fr lo 0 0) (va_Pc av (fun U => cx_V u w U)) (fun _ st oc t => oc = .returned (some r) ∧ t.heap = st.heap) 0 0 (fun _ => False)
/-- what a method that may change its world says of its end -/
def cx_Q (u : cx_U) (w : cx_W) (sz : Nat) (r : Option Value) (G : cx_W → Prop) : Array Value → State → Outcome → State → Prop := fun _ st oc t => oc = .returned r ∧ (∃ w', G w' ∧ cx_V u w' t ∧ cx_D (cx_A w sz) w') ∧ va_F (cx_A w sz) st t
/-- a method that may change the cells of its world and make new ones: the world behind it has G -/
def cx_M (l : Launch) (u : cx_U) (y : MethodName) (cc : ByteArray) (maxL : Nat) (ret : Option FieldType) (fr lo : Nat) (av : List Value) (w : cx_W) (sz : Nat) (r : Option Value) (G : cx_W → Prop) (mc ms : Nat) : Prop :=
  Met l y (.code y cc maxL ret :: GW) (cx_R fr lo mc ms) (va_Pc av (fun U => U.heap.size = sz ∧ cx_V u w U)) (cx_Q u w sz r G) mc ms (cx_A w sz)
theorem cx_N.of {l : Launch} {u : cx_U} {y : MethodName} {cc : ByteArray} {maxL : Nat} {ret : Option FieldType} {fr lo : Nat} {av : List Value} {w : cx_W} {r : Value} (hy : plainName y.cls = true) (hlen : (lg_sl av).length ≤ maxL)
    (body : ∀ (p : Program) (e : Env) (s : State) (m : MethodId) (args : Array Value) (below : List Frame) (meth : Method) (c : Code) (ls : Array Slot) (A : Nat → Prop), CallFix p m c cc maxL s args GW y.cls → meth.sig.returnType = ret → meth.locks = false → cx_B u A w s s.heap [] → lv_has ls maxL (lv_args 0 av) →
      W p l e (cx_R fr lo 0 0) s m args below meth c s.heap [] 0 0 (MQ below (fun _ st oc t => oc = .returned (some r) ∧ t.heap = st.heap) args s 0 0 (fun _ => False)) (F0 m 0 ls [])) : cx_N l u y cc maxL ret fr lo av w r := by
  refine Met.ofW (cc := cc) (maxL := maxL) (ret := ret) hy rfl ?_
  intro p e s m args below meth c s₁ B hml hv
  obtain ⟨rfl, hV⟩ := hv
  have hown : s.vm.findClass y.cls = some m.cls := findClass_of_methodNamed B.named
  have hl := lv_entry av (n := maxL) hlen
  have hts := atoms_spec (ws := .code y cc maxL ret :: GW) B.pre
  rw [lg_entry_eq]
  exact body p e s m _ below meth c _ (fun _ => True) ⟨B.exec, B.bytes, hml, hown, fun x hx => hts x (List.mem_cons_of_mem _ hx)⟩ B.returns B.notSynchronized ⟨hV.1, hV.2.1, hV.2.2.1, va_S.rf, fun _ _ => trivial, hV.2.2.2⟩ hl
theorem cx_M.of {l : Launch} {u : cx_U} {y : MethodName} {cc : ByteArray} {maxL : Nat} {ret : Option FieldType} {fr lo : Nat} {av : List Value} {w : cx_W} {sz : Nat} {r : Option Value} {G : cx_W → Prop} {mc ms : Nat} (hy : plainName y.cls = true) (hlen : (lg_sl av).length ≤ maxL)
    (body : ∀ (p : Program) (e : Env) (s : State) (m : MethodId) (args : Array Value) (below : List Frame) (meth : Method) (c : Code) (ls : Array Slot), s.heap.size = sz → CallFix p m c cc maxL s args GW y.cls → meth.sig.returnType = ret → meth.locks = false → meth.name = y.name → cx_B u (cx_A w sz) w s s.heap [] → lv_has ls maxL (lv_args 0 av) →
      W p l e (cx_R fr lo mc ms) s m args below meth c s.heap [] 0 0 (MQ below (cx_Q u w sz r G) args s mc ms (cx_A w sz)) (F0 m 0 ls [])) : cx_M l u y cc maxL ret fr lo av w sz r G mc ms := by
  refine Met.ofW (cc := cc) (maxL := maxL) (ret := ret) hy rfl ?_
  intro p e s m args below meth c s₁ B hml hv
  obtain ⟨rfl, hsz, hV⟩ := hv
  have hown : s.vm.findClass y.cls = some m.cls := findClass_of_methodNamed B.named
  have hl := lv_entry av (n := maxL) hlen
  have hts := atoms_spec (ws := .code y cc maxL ret :: GW) B.pre
  rw [lg_entry_eq]
  exact body p e s m _ below meth c _ hsz ⟨B.exec, B.bytes, hml, hown, fun x hx => hts x (List.mem_cons_of_mem _ hx)⟩ B.returns B.notSynchronized (name_of_methodNamed B.named B.method).1 ⟨hV.1, hV.2.1, hV.2.2.1.weaken (fun k i x hx _ => Or.inl ⟨k, i, x.2, hx⟩), va_S.rf, fun q h => Or.inr (by rw [← hsz]; exact h), hV.2.2.2⟩ hl
section CXC
variable {p : Program} {l : Launch} {e : Env} {R : Room} {s : State} {m : MethodId} {args : Array Value} {below : List Frame} {meth : Method} {c : Code} {H : Heap} {locs : List Loc} {cells slots : Nat} {Q : State → Prop}
variable {cc : ByteArray} {pc nL : Nat} {ls : Array Slot} {rest : List Value} {own : String} {u : cx_U} {A : Nat → Prop} {w : cx_W}
/-- the ends of a method that changes nothing -/
theorem cx_iretN {v : Int32} {r : Value} (X : CallFix p m c cc nL s args GW own) (hr : meth.sig.returnType = some .int) (hlocks : meth.locks = false) (hv : Value.int v = r) (hdg : decode cc pc = .ok (.ireturn, 1)) : W p l e R s m args below meth c s.heap [] 0 0 (MQ below (fun _ st oc t => oc = .returned (some r) ∧ t.heap = st.heap) args s 0 0 (fun _ => False)) (F0 m pc ls [.int v]) :=
  W.iret X.1 X.2.1 hr (fun t ht _ => ⟨by rw [hv], ht⟩) (fun q h => by cases h) hdg
theorem cx_lretN {v : Int64} {r : Value} (X : CallFix p m c cc nL s args GW own) (hr : meth.sig.returnType = some .long) (hlocks : meth.locks = false) (hv : Value.long v = r) (hdg : decode cc pc = .ok (.lreturn, 1)) : W p l e R s m args below meth c s.heap [] 0 0 (MQ below (fun _ st oc t => oc = .returned (some r) ∧ t.heap = st.heap) args s 0 0 (fun _ => False)) (F0 m pc ls [.long v]) :=
  W.lret X.1 X.2.1 hr (fun t ht _ => ⟨by rw [hv], ht⟩) (fun q h => by cases h) hdg
theorem cx_aretN {v r : Value} {n : String} (X : CallFix p m c cc nL s args GW own) (hr : meth.sig.returnType = some (.object n)) (hlocks : meth.locks = false) (hv : v = r) (hq : v = .null ∨ ∃ a, v = .ref a) (hdg : decode cc pc = .ok (.areturn, 1)) : W p l e R s m args below meth c s.heap [] 0 0 (MQ below (fun _ st oc t => oc = .returned (some r) ∧ t.heap = st.heap) args s 0 0 (fun _ => False)) (F0 m pc ls [v]) :=
  W.aret X.1 X.2.1 hr (Or.inl ⟨n, rfl⟩) hq (fun t ht _ => ⟨by rw [hv], ht⟩) (fun q h => by cases h) hdg
theorem cx_zretN {a : Int} {r : Value} (X : CallFix p m c cc nL s args GW own) (hr : meth.sig.returnType = some .boolean) (hlocks : meth.locks = false) (h1 : 0 ≤ a) (h2 : a ≤ 1) (hv : Value.int (jI a) = r) (hdg : decode cc pc = .ok (.ireturn, 1)) : W p l e R s m args below meth c s.heap [] 0 0 (MQ below (fun _ st oc t => oc = .returned (some r) ∧ t.heap = st.heap) args s 0 0 (fun _ => False)) (F0 m pc ls [.int (jI a)]) :=
  W.zret X.1 X.2.1 hr (by rcases (show a = 0 ∨ a = 1 by omega) with rfl | rfl <;> decide +kernel) (fun t ht _ => ⟨by rw [hv], ht⟩) (fun q h => by cases h) hdg
/-- the ends of a method that may change its world -/
theorem cx_out {w0 w1 : cx_W} {sz : Nat} {G : cx_W → Prop} (hsz : s.heap.size = sz) (B : cx_B u (cx_A w0 sz) w1 s H locs) (hG : G w1) (t : State) (ht : t.heap = H) (hW : s.WarmedH t.vm) : (∃ w', G w' ∧ cx_V u w' t ∧ cx_D (cx_A w0 sz) w') ∧ va_F (cx_A w0 sz) s t :=
  ⟨⟨w1, hG, ⟨va_K.moved hW.alike B.1, by rw [ht]; exact B.2.1, B.2.2.1.weaken (fun _ _ _ _ _ => trivial), B.2.2.2.2.2.warm hW⟩, B.2.2.1⟩, B.2.2.2.1.F ht⟩
theorem cx_iretM {v : Int32} {r : Option Value} {w0 w1 : cx_W} {sz mc ms : Nat} {G : cx_W → Prop} (X : CallFix p m c cc nL s args GW own) (B : cx_B u (cx_A w0 sz) w1 s H locs) (hsz : s.heap.size = sz) (hr : meth.sig.returnType = some .int) (hlocks : meth.locks = false) (hc : cells ≤ mc) (hs : slots ≤ ms) (hv : some (Value.int v) = r) (hG : G w1) (hdg : decode cc pc = .ok (.ireturn, 1)) : W p l e R s m args below meth c H locs cells slots (MQ below (cx_Q u w0 sz r G) args s mc ms (cx_A w0 sz)) (F0 m pc ls [.int v]) :=
  W.widen hc hs (W.iret X.1 X.2.1 hr (fun t ht hW => ⟨by rw [hv], cx_out hsz B hG t ht hW⟩) B.2.2.2.1.2.2 hdg)
theorem cx_lretM {v : Int64} {r : Option Value} {w0 w1 : cx_W} {sz mc ms : Nat} {G : cx_W → Prop} (X : CallFix p m c cc nL s args GW own) (B : cx_B u (cx_A w0 sz) w1 s H locs) (hsz : s.heap.size = sz) (hr : meth.sig.returnType = some .long) (hlocks : meth.locks = false) (hc : cells ≤ mc) (hs : slots ≤ ms) (hv : some (Value.long v) = r) (hG : G w1) (hdg : decode cc pc = .ok (.lreturn, 1)) : W p l e R s m args below meth c H locs cells slots (MQ below (cx_Q u w0 sz r G) args s mc ms (cx_A w0 sz)) (F0 m pc ls [.long v]) :=
  W.widen hc hs (W.lret X.1 X.2.1 hr (fun t ht hW => ⟨by rw [hv], cx_out hsz B hG t ht hW⟩) B.2.2.2.1.2.2 hdg)
theorem cx_zretM {a : Int} {r : Option Value} {w0 w1 : cx_W} {sz mc ms : Nat} {G : cx_W → Prop} (X : CallFix p m c cc nL s args GW own) (B : cx_B u (cx_A w0 sz) w1 s H locs) (hsz : s.heap.size = sz) (hr : meth.sig.returnType = some .boolean) (hlocks : meth.locks = false) (hc : cells ≤ mc) (hs : slots ≤ ms) (h1 : 0 ≤ a) (h2 : a ≤ 1) (hv : some (Value.int (jI a)) = r) (hG : G w1) (hdg : decode cc pc = .ok (.ireturn, 1)) : W p l e R s m args below meth c H locs cells slots (MQ below (cx_Q u w0 sz r G) args s mc ms (cx_A w0 sz)) (F0 m pc ls [.int (jI a)]) :=
  W.widen hc hs (W.zret X.1 X.2.1 hr (by rcases (show a = 0 ∨ a = 1 by omega) with rfl | rfl <;> decide +kernel) (fun t ht hW => ⟨by rw [hv], cx_out hsz B hG t ht hW⟩) B.2.2.2.1.2.2 hdg)
theorem cx_vretM {w0 w1 : cx_W} {sz mc ms : Nat} {G : cx_W → Prop} (X : CallFix p m c cc nL s args GW own) (B : cx_B u (cx_A w0 sz) w1 s H locs) (hsz : s.heap.size = sz) (hr : meth.sig.returnType = none) (hlocks : meth.locks = false) (hc : cells ≤ mc) (hs : slots ≤ ms) (hG : G w1) (hdg : decode cc pc = .ok (.return_, 1)) : W p l e R s m args below meth c H locs cells slots (MQ below (cx_Q u w0 sz none G) args s mc ms (cx_A w0 sz)) (F0 m pc ls []) :=
  W.widen hc hs (W.vret X.1 X.2.1 hr (fun t ht hW => ⟨rfl, cx_out hsz B hG t ht hW⟩) B.2.2.2.1.2.2 hdg)
/-- behind a call -/
theorem cx_goN {st0 : List Value} {r : Value} (hr : va_Run p l e R s m args below meth c H locs cells slots 0 0 (F0 m pc ls st0) rest (fun st oc t => oc = .returned (some r) ∧ t.heap = st.heap) (fun _ => False))
    (kk : W p l e R s m args below meth c H locs cells slots Q (F0 m (pc + 3) ls (r :: rest))) : W p l e R s m args below meth c H locs cells slots Q (F0 m pc ls st0) := by
  intro T hT X
  obtain ⟨v, st₀, t, T', L, h0, X', hL, e1, e2, ⟨hv, hh⟩, st⟩ := hr T hT X
  cases hv
  have hL0 : L = [] := by
    cases L with
    | nil => rfl
    | cons q L => exact absurd (hL q List.mem_cons_self) (fun h => h)
  subst hL0
  rw [List.append_nil] at X'
  obtain ⟨t2, a1, b1⟩ := kk T' (by rw [e1, hh, h0]) X'
  exact ⟨t2, st t2 a1, b1⟩
theorem cx_goM {wc : cx_W} {st0 : List Value} {r : Option Value} {G : cx_W → Prop} {mc ms : Nat} (B : cx_B u A w s H locs) (hsub : ∀ (k i : Nat) (x : Nat × va_E), wc k i = some x → w k i = some x) (hr : va_Run p l e R s m args below meth c H locs cells slots mc ms (F0 m pc ls st0) rest (cx_Q u wc H.size r G #[]) (cx_A wc H.size))
    (kk : ∀ (H1 : Heap) (locs1 : List Loc) (w' : cx_W), G w' → H.size ≤ H1.size → (∀ q : Nat, q < H.size → ¬ cx_A wc H.size q → H1[q]? = H[q]?) → cx_P u.1 vw_cl w' H1 → cx_D (cx_A wc H.size) w' → va_S A s.heap H1 locs1 → (∀ q, cx_A wc H.size q → A q) → W p l e R s m args below meth c H1 locs1 (cells + mc) (slots + ms) Q (F0 m (pc + 3) ls (r.toList ++ rest))) : W p l e R s m args below meth c H locs cells slots Q (F0 m pc ls st0) := by
  intro T hT X
  obtain ⟨v, st₀, t, T', L, h0, X', hL, e1, e2, ⟨hv, ⟨w', hG, hV, hD'⟩, hz, hk⟩, st⟩ := hr T hT X
  cases hv
  obtain ⟨hK, hP, hD, hS, hA, hE⟩ := B
  have hF : ∀ q, cx_A wc H.size q → A q := by
    intro q h
    rcases h with ⟨k, i, e, h⟩ | h
    · exact hD.2 k i (q, e) (hsub k i _ h)
    · exact hA q (Nat.le_trans hS.1 h)
  rw [h0] at hz hk
  obtain ⟨t2, a1, b1⟩ := kk T'.heap (locs ++ L) w' hG (by rw [e1]; exact hz) (fun q h1 h2 => by rw [e1]; exact hk q h1 h2) (by rw [e1]; exact hV.2.1) hD'
    ⟨Nat.le_trans hS.1 (by rw [e1]; exact hz), fun q h1 h2 => by rw [e1, hk q (Nat.lt_of_lt_of_le h1 hS.1) (fun z => h2 (hF q z))]; exact hS.2.1 q h1 h2, fun q hq => by
      rcases List.mem_append.mp hq with h | h
      · exact hS.2.2 q h
      · exact hF _ (hL q h)⟩ hF T' rfl X'
  exact ⟨t2, st t2 a1, b1⟩
/-- the world that came back is the caller's -/
theorem cx_goW {st0 : List Value} {r : Option Value} {G : cx_W → Prop} {mc ms : Nat} (B : cx_B u A w s H locs) (hr : va_Run p l e R s m args below meth c H locs cells slots mc ms (F0 m pc ls st0) rest (cx_Q u w H.size r G #[]) (cx_A w H.size))
    (kk : ∀ (H : Heap) (locs : List Loc) (w' : cx_W), G w' → cx_B u A w' s H locs → W p l e R s m args below meth c H locs (cells + mc) (slots + ms) Q (F0 m (pc + 3) ls (r.toList ++ rest))) : W p l e R s m args below meth c H locs cells slots Q (F0 m pc ls st0) :=
  cx_goM B (fun _ _ _ h => h) hr (fun H1 locs1 w' hG _ _ hP hD hS hF => kk H1 locs1 w' hG ⟨B.1, hP, hD.weaken (fun _ _ _ _ h => hF _ h), hS, B.2.2.2.2⟩)
theorem cx_blN {av : List Value} : FrameBlind (va_Pc av (fun U => cx_V u w U)) := fun _ _ g mk q => ⟨q.1, q.2.calling g mk _⟩
theorem cx_blM {av : List Value} {sz : Nat} : FrameBlind (va_Pc av (fun U => U.heap.size = sz ∧ cx_V u w U)) := fun _ _ g mk q => ⟨q.1, q.2.1, q.2.2.calling g mk _⟩
theorem cx_atV (B : cx_B u A w s H locs) {wc : cx_W} (hsub : ∀ (k i : Nat) (x : Nat × va_E), wc k i = some x → w k i = some x) (U : State) (hU : U.heap = H) (hW : s.WarmedH U.vm) : cx_V u wc U :=
  ⟨va_K.moved hW.alike B.1, by rw [hU]; exact fun k i x hx => B.2.1 k i x (hsub k i x hx), ⟨fun k i k' i' x y hx hy => B.2.2.1.1 k i k' i' x y (hsub _ _ _ hx) (hsub _ _ _ hy), fun _ _ _ _ => trivial⟩, B.2.2.2.2.2.warm hW⟩
theorem cx_rcv (B : cx_B u A w s H locs) {k i ci a : Nat} {q : vw_C} {fs : List Value} (hc : vw_cl[ci]? = some q) (he : w k i = some (a, .inr (ci, fs))) : ∃ cell : Cell, H[a]? = some cell ∧ cell.vm.isStatics = false ∧ s.vm.findClass q.1 = some cell.cls := va_recv B.1 (B.2.1.one he) hc (q0 := 0) rfl
variable {y : MethodName} {bytes : ByteArray} {maxL n index fr lo mc ms : Nat} {ret : Option FieldType} {b : Nat} {As : List Value} {wc : cx_W}
theorem cx_cb {rm : Room} (X : CallFix p m c cc nL s args GW own) (hcd : Cond.code y bytes maxL ret ∈ GW) (hi : Cond.initialized y.cls ∈ GW) (hd : cx_hd y n) (hl : Cond.methodLink own index y ∈ GW) (hR : rm.frames + 1 ≤ R.frames ∧ 8 + (maxL + 11) + rm.locals ≤ R.locals) : CallB R s args own index y bytes maxL ret (.code y bytes maxL ret :: GW) rm rm.cells rm.slots n :=
  callB_of n X.2.2.2.2 (fun x hx => by
    rcases List.mem_cons.mp hx with h | h
    · rw [h]; exact GW_good _ hcd
    · exact GW_good _ h) rfl rfl rfl (X.2.2.2.2 _ hi) (X.2.2.2.2 _ hl) hd hR
/-- a call of a method of an object that changes nothing -/
theorem cx_cVN {r : Value} {k i ci : Nat} {q : vw_C} {fs : List Value} (X : CallFix p m c cc nL s args GW own) (B : cx_B u A w s H locs) (K : cx_KV GW y bytes maxL ret n) (hl : Cond.methodLink own index y ∈ GW) (hM : cx_N l u y bytes maxL ret fr lo (.ref b :: As) wc r) (hsub : ∀ (k i : Nat) (x : Nat × va_E), wc k i = some x → w k i = some x)
    (he : w k i = some (b, .inr (ci, fs))) (hc : vw_cl[ci]? = some q) (hq : y.cls = q.1) (hR : fr + 1 ≤ R.frames ∧ 8 + (maxL + 11) + lo ≤ R.locals) (hf : cells ≤ R.cells ∧ slots ≤ R.slots) (hn : As.length = n) (hls : ls.size = nL) (hst : (rest.map fun v => v.category).sum ≤ 8) (hdg : decode cc pc = .ok (.invokevirtual index, 3))
    {st0 : List Value} (hs0 : st0 = As.reverse ++ .ref b :: rest) (kk : W p l e R s m args below meth c H locs cells slots Q (F0 m (pc + 3) ls (r :: rest))) : W p l e R s m args below meth c H locs cells slots Q (F0 m pc ls st0) := by
  refine cx_goN (rest := rest) (r := r) ?_ kk
  exact va_runV (C := y.cls) X hM ⟨cx_cb (rm := cx_R fr lo 0 0) X K.2.2.2.1 K.2.2.1 K.2.2.2.2 hl hR, X.2.2.2.2 _ K.1, X.2.2.2.2 _ K.2.1⟩ ⟨cx_blN, by rw [hq]; exact cx_rcv B hc he, fun U hU hW => ⟨rfl, cx_atV B hsub U hU hW⟩⟩ rfl hn hls hs0 (lv_room hst) hdg hf
theorem cx_cVM {r : Option Value} {G : cx_W → Prop} {k i ci : Nat} {q : vw_C} {fs : List Value} (X : CallFix p m c cc nL s args GW own) (B : cx_B u A w s H locs) (K : cx_KV GW y bytes maxL ret n) (hl : Cond.methodLink own index y ∈ GW) (hM : cx_M l u y bytes maxL ret fr lo (.ref b :: As) w H.size r G mc ms)
    (he : w k i = some (b, .inr (ci, fs))) (hc : vw_cl[ci]? = some q) (hq : y.cls = q.1) (hR : fr + 1 ≤ R.frames ∧ 8 + (maxL + 11) + lo ≤ R.locals) (hf : cells + mc ≤ R.cells ∧ slots + ms ≤ R.slots) (hn : As.length = n) (hls : ls.size = nL) (hst : (rest.map fun v => v.category).sum ≤ 8) (hdg : decode cc pc = .ok (.invokevirtual index, 3))
    {st0 : List Value} (hs0 : st0 = As.reverse ++ .ref b :: rest) (kk : ∀ (H : Heap) (locs : List Loc) (w' : cx_W), G w' → cx_B u A w' s H locs → W p l e R s m args below meth c H locs (cells + mc) (slots + ms) Q (F0 m (pc + 3) ls (r.toList ++ rest))) : W p l e R s m args below meth c H locs cells slots Q (F0 m pc ls st0) := by
  refine cx_goW (rest := rest) (r := r) (G := G) B ?_ kk
  exact va_runV (C := y.cls) X hM ⟨cx_cb (rm := cx_R fr lo mc ms) X K.2.2.2.1 K.2.2.1 K.2.2.2.2 hl hR, X.2.2.2.2 _ K.1, X.2.2.2.2 _ K.2.1⟩ ⟨cx_blM, by rw [hq]; exact cx_rcv B hc he, fun U hU hW => ⟨rfl, by rw [hU], cx_atV B (fun _ _ _ h => h) U hU hW⟩⟩ rfl hn hls hs0 (lv_room hst) hdg hf
/-- a static method that changes nothing -/
theorem cx_cSN {r : Value} (X : CallFix p m c cc nL s args GW own) (B : cx_B u A w s H locs) (K : cx_KS GW y bytes maxL ret n) (hl : Cond.methodLink own index y ∈ GW) (hM : cx_N l u y bytes maxL ret fr lo As wc r) (hsub : ∀ (k i : Nat) (x : Nat × va_E), wc k i = some x → w k i = some x)
    (hR : fr + 1 ≤ R.frames ∧ 8 + (maxL + 11) + lo ≤ R.locals) (hf : cells ≤ R.cells ∧ slots ≤ R.slots) (hn : As.length = n) (hls : ls.size = nL) (hst : (rest.map fun v => v.category).sum ≤ 8) (hdg : decode cc pc = .ok (.invokestatic index, 3))
    {st0 : List Value} (hs0 : st0 = As.reverse ++ rest) (kk : W p l e R s m args below meth c H locs cells slots Q (F0 m (pc + 3) ls (r :: rest))) : W p l e R s m args below meth c H locs cells slots Q (F0 m pc ls st0) := by
  refine cx_goN (rest := rest) (r := r) ?_ kk
  exact va_runS X hM ⟨cx_cb (rm := cx_R fr lo 0 0) X K.2.2.1 K.2.1 K.2.2.2 hl hR, X.2.2.2.2 _ K.1⟩ ⟨cx_blN, fun U hU hW => ⟨rfl, cx_atV B hsub U hU hW⟩⟩ rfl hn hls hs0 (lv_room hst) hdg hf
/-- a nest mate's own static method that changes nothing -/
theorem cx_cSX {r : Value} {host : String} (X : CallFix p m c cc nL s args GW own) (B : cx_B u A w s H locs) (K : cx_KS GW y bytes maxL ret n) (hl : ∀ U : State, cx_E U → va_Nw (.methodLinkNest own index y host) U) (hM : cx_N l u y bytes maxL ret fr lo As wc r) (hsub : ∀ (k i : Nat) (x : Nat × va_E), wc k i = some x → w k i = some x)
    (hR : fr + 1 ≤ R.frames ∧ 8 + (maxL + 11) + lo ≤ R.locals) (hf : cells ≤ R.cells ∧ slots ≤ R.slots) (hn : As.length = n) (hls : ls.size = nL) (hst : (rest.map fun v => v.category).sum ≤ 8) (hdg : decode cc pc = .ok (.invokestatic index, 3))
    {st0 : List Value} (hs0 : st0 = As.reverse ++ rest) (kk : W p l e R s m args below meth c H locs cells slots Q (F0 m (pc + 3) ls (r :: rest))) : W p l e R s m args below meth c H locs cells slots Q (F0 m pc ls st0) := by
  refine cx_goN (rest := rest) (r := r) ?_ kk
  exact va_runSN X hM ⟨va_cnB (rm := cx_R fr lo 0 0) n X.2.2.2.2 (fun x hx => by
    rcases List.mem_cons.mp hx with h | h
    · rw [h]; exact GW_good _ K.2.2.1
    · exact GW_good _ h) rfl rfl rfl (hl s B.2.2.2.2.2) (X.2.2.2.2 _ K.2.1) K.2.2.2 hR, X.2.2.2.2 _ K.1, trivial⟩ ⟨cx_blN, fun U hU hW => ⟨rfl, cx_atV B hsub U hU hW⟩⟩ rfl hn hls hs0 (lv_room hst) hdg hf
/-- a constructor -/
theorem cx_cI {G : cx_W → Prop} (X : CallFix p m c cc nL s args GW own) (B : cx_B u A w s H locs) (K : cx_KI GW y bytes maxL n) (hl : Cond.methodLink own index y ∈ GW) (hM : cx_M l u y bytes maxL none fr lo (.ref b :: As) w H.size none G mc ms)
    (hR : fr + 1 ≤ R.frames ∧ 8 + (maxL + 11) + lo ≤ R.locals) (hf : cells + mc ≤ R.cells ∧ slots + ms ≤ R.slots) (hn : As.length = n) (hls : ls.size = nL) (hst : (rest.map fun v => v.category).sum ≤ 8) (hdg : decode cc pc = .ok (.invokespecial index, 3))
    {st0 : List Value} (hs0 : st0 = As.reverse ++ .ref b :: rest) (kk : ∀ (H : Heap) (locs : List Loc) (w' : cx_W), G w' → cx_B u A w' s H locs → W p l e R s m args below meth c H locs (cells + mc) (slots + ms) Q (F0 m (pc + 3) ls rest)) : W p l e R s m args below meth c H locs cells slots Q (F0 m pc ls st0) := by
  refine cx_goW (rest := rest) (r := none) (G := G) B ?_ kk
  exact va_runI X hM ⟨cx_cb (rm := cx_R fr lo mc ms) X K.2.2.2.1 K.2.2.1 K.2.2.2.2 hl hR, K.1, X.2.2.2.2 _ K.2.1⟩ ⟨cx_blM, fun U hU hW => ⟨rfl, by rw [hU], cx_atV B (fun _ _ _ h => h) U hU hW⟩⟩ rfl hn hls hs0 (lv_room hst) hdg hf
theorem cx_obj {b : Nat} (X : CallFix p m c cc nL s args GW own) (hl : Cond.methodLink own index objectInit ∈ GW) (hls : ls.size = nL) (hR : 1 ≤ R.frames ∧ (rest.map fun v => v.category).sum + 12 ≤ R.locals) (hdg : decode cc pc = .ok (.invokespecial index, 3)) (kk : W p l e R s m args below meth c H locs cells slots Q (F0 m (pc + 3) ls rest)) : W p l e R s m args below meth c H locs cells slots Q (F0 m pc ls (.ref b :: rest)) :=
  W.objInit X.1 X.2.1 X.2.2.2.1 (X.2.2.2.2 _ hl) (X.2.2.2.2 _ gj_objectInit) (X.2.2.2.2 _ gd_objectInit) rfl (hls.trans X.2.2.1.symm) rfl hdg hR.1 (by have := hR.2; show 2 * 0 + _ + 12 ≤ _; omega) kk
theorem cx_max {a b : Int} (X : CallFix p m c cc nL s args GW own) (hl : Cond.methodLink own index Lib.MathLoose.max_long.x ∈ GW) (h1 : -9223372036854775808 ≤ a) (h2 : a ≤ 9223372036854775807) (h3 : -9223372036854775808 ≤ b) (h4 : b ≤ 9223372036854775807) (hls : ls.size = nL) (hR : 1 ≤ R.frames ∧ (rest.map fun v => v.category).sum + 15 ≤ R.locals) (hf : cells ≤ R.cells ∧ slots ≤ R.slots) (hdg : decode cc pc = .ok (.invokestatic index, 3)) (kk : W p l e R s m args below meth c H locs cells slots Q (F0 m (pc + 3) ls (.long (jL (if b < a then a else b)) :: rest))) : W p l e R s m args below meth c H locs cells slots Q (F0 m pc ls (.long (jL b) :: .long (jL a) :: rest)) := by
  refine va_mmax_long X.1 X.2.1 (X.2.2.1.trans hls.symm) X.2.2.2.1 (X.2.2.2.2 _ hl) (X.2.2.2.2 _ gt_max_long) (X.2.2.2.2 _ gi_Math) (X.2.2.2.2 _ gd_max_long) hR.1 hR.2 hf.1 hf.2 hdg ?_
  by_cases h : b < a
  · rw [if_pos ((jL_lt h3 h4 h1 h2).mpr h)]
    rw [if_pos h] at kk
    exact kk
  · rw [if_neg (fun q => h ((jL_lt h3 h4 h1 h2).mp q))]
    rw [if_neg h] at kk
    exact kk
theorem cx_min {a b : Int} (X : CallFix p m c cc nL s args GW own) (hl : Cond.methodLink own index Lib.MathLoose.min_long.x ∈ GW) (h1 : -9223372036854775808 ≤ a) (h2 : a ≤ 9223372036854775807) (h3 : -9223372036854775808 ≤ b) (h4 : b ≤ 9223372036854775807) (hls : ls.size = nL) (hR : 1 ≤ R.frames ∧ (rest.map fun v => v.category).sum + 15 ≤ R.locals) (hf : cells ≤ R.cells ∧ slots ≤ R.slots) (hdg : decode cc pc = .ok (.invokestatic index, 3)) (kk : W p l e R s m args below meth c H locs cells slots Q (F0 m (pc + 3) ls (.long (jL (if b < a then b else a)) :: rest))) : W p l e R s m args below meth c H locs cells slots Q (F0 m pc ls (.long (jL b) :: .long (jL a) :: rest)) := by
  refine va_mmin_long X.1 X.2.1 (X.2.2.1.trans hls.symm) X.2.2.2.1 (X.2.2.2.2 _ hl) (X.2.2.2.2 _ gt_min_long) (X.2.2.2.2 _ gi_Math) (X.2.2.2.2 _ gd_min_long) hR.1 hR.2 hf.1 hf.2 hdg ?_
  by_cases h : b < a
  · rw [if_pos ((jL_lt h3 h4 h1 h2).mpr h)]
    rw [if_pos h] at kk
    exact kk
  · rw [if_neg (fun q => h ((jL_lt h3 h4 h1 h2).mp q))]
    rw [if_neg h] at kk
    exact kk
end CXC
