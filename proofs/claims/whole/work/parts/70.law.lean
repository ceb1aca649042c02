/-! THE CLAIM OUT OF ONE WALK OF THE LAW'S BODY. Your part is whole_start (and what it stands on); all else here is the same for every law, but numbers. -/
def R_law : String := "CatchSharesLaw"
def lw_P (b : Addr) (xs : List Int32) (args : Array Value) (s : State) : Prop := args = #[.ref b] ∧ s.IntsAt b xs ∧ xs.length ≤ 4096 ∧ (Jvm.Cond.and given_1 narrow_1).before args s = true
def lw_Q (_ : Array Value) (s : State) (o : Outcome) (t : State) : Prop := o = .returned (some (.int 1)) ∧ Framed s o t [] 600000 7302250
def lw_Z (below : List Frame) (a : Array Value) (s : State) : State → Prop := fun t => ∃ o, t.status = .running ∧ Ended t below o ∧ lw_Q a s o t
/-- the law's own end, with 1 on the stack, nothing written that was there before, its room as the claim has it -/
theorem lw_ret {p : Program} {l : Launch} {e : Env} {s : State} {m : MethodId} {below : List Frame} {meth : Method} {c : Code} {b : Nat} (hx : p.tables.exec = Jvm.exec) (hb : c.code = code) (hr : meth.sig.returnType = ret) (hlocks : meth.locks = false) {pc : Nat} {H : Heap} {ls : Array Slot} (hdg : decode code pc = .ok (.ireturn, 1)) : W p l e room_1 s m #[Value.ref b] below meth c H [] 600000 7302250 (lw_Z below #[Value.ref b] s) (F0 m pc ls [.int 1]) := by
  intro T hT X
  obtain ⟨fs, hret, hrun, hended, hW, hframe⟩ := X.leave (v := some (.int 1)) (hlocks := hlocks) (fun h => by rw [hr] at h; cases h)
  have hmeth' : T.vm.method? m = some meth := X.method'
  refine ⟨T.setFrames fs, ?_, .returned (some (.int 1)), hrun, hended, rfl, ⟨_, rfl⟩, hW, hframe⟩
  jvm_step X.here [X.here.top, hx, hb, hdg, hmeth', hr, ret, narrow_b1]
  (try refine ⟨rfl, ?_⟩); (try refine ⟨rfl, ?_⟩)
  first | (intro acts; rw [hret _ acts rfl rfl rfl]) | rw [hret _ _ rfl rfl rfl]
  exact Steps.refl _
/-- what holds at the law's entry: the machine, the code, the tables' words (any of lw_tbl by 'hts w (by decide +kernel)'), the script of L ints xs at the cell b, what the Statement gives of the start (any of its parts by flat_of_before) -/
def lw_At (p : Program) (s : State) (m : MethodId) (meth : Method) (c : Code) (b L : Nat) (xs : Nat → Int32) : Prop :=
  p.tables.exec = Jvm.exec ∧ c.code = code ∧ meth.sig.returnType = ret ∧ c.maxLocals = 4 ∧ s.vm.findClass R_law = some m.cls ∧ (∀ w ∈ lw_tbl, w.before #[Value.ref b] s = true) ∧ va_X b L xs s s.heap ∧ b < s.heap.size ∧ meth.locks = false ∧ (Jvm.Cond.and given_1 narrow_1).before #[Value.ref b] s = true
/-! the two worlds side by side -/
theorem cx_join {u : cx_U} {A : Nat → Prop} {w wc wr w1 w2 : cx_W} {H H1 : Heap} (hP : cx_P u.1 vw_cl w H) (hD : cx_D A w) (hsub : ∀ (k i : Nat) (x : Nat × va_E), wc k i = some x → w k i = some x) (hsr : ∀ (k i : Nat) (x : Nat × va_E), wr k i = some x → w k i = some x) (hdis : ∀ (k i : Nat) (x y : Nat × va_E), wc k i = some x → wr k i = some y → False)
    (hk : ∀ q : Nat, q < H.size → ¬ cx_A wc H.size q → H1[q]? = H[q]?) (hP1 : cx_P u.1 vw_cl w1 H1) (hD1 : cx_D (cx_A wc H.size) w1) (hF : ∀ q, cx_A wc H.size q → A q) (hcov : ∀ (k i : Nat) (x : Nat × va_E), w2 k i = some x → w1 k i = some x ∨ wr k i = some x) : cx_P u.1 vw_cl w2 H1 ∧ cx_D A w2 := by
  have hn : ∀ (k i : Nat) (x : Nat × va_E), wr k i = some x → ¬ cx_A wc H.size x.1 := by
    intro k i x hx hA
    rcases hA with ⟨k', i', e, h⟩ | h
    · obtain ⟨rfl, rfl⟩ := hD.1 k i k' i' x (x.1, e) (hsr k i x hx) (hsub k' i' _ h) rfl
      exact hdis k i _ _ h hx
    · exact absurd ((hP k i x (hsr k i x hx)).lt) (Nat.not_lt.mpr h)
  refine ⟨fun k i x hx => ?_, fun k i k' i' x y hx hy hxy => ?_, fun k i x hx => ?_⟩
  · rcases hcov k i x hx with h | h
    · exact hP1 k i x h
    · have h1 := hP k i x (hsr k i x h)
      exact h1.kept (hk x.1 h1.lt (hn k i x h))
  · rcases hcov k i x hx with h | h <;> rcases hcov k' i' y hy with h2 | h2
    · exact hD1.1 k i k' i' x y h h2 hxy
    · exact absurd (hxy ▸ hD1.2 k i x h) (hn k' i' y h2)
    · exact absurd (hxy ▸ hD1.2 k' i' y h2) (hn k i x h)
    · exact hD.1 k i k' i' x y (hsr _ _ _ h) (hsr _ _ _ h2) hxy
  · rcases hcov k i x hx with h | h
    · exact hF _ (hD1.2 k i x h)
    · exact hD.2 k i x (hsr k i x h)
def lw_w (u : cx_U) (ad : Nat → Nat → Nat) (S : cs_S) (sc : Nat → Nat → Int) (ad2 : Nat → Nat → Nat) (S2 : cs_S) (sc2 : Nat → Nat → Int) : cx_W := fun k i => if k < 20 then wC u ad S sc k i else wM u ad2 S2 sc2 k i
theorem wC_lt {u : cx_U} {ad : Nat → Nat → Nat} {S : cs_S} {sc : Nat → Nat → Int} {k i : Nat} {x : Nat × va_E} (h : wC u ad S sc k i = some x) : k < 20 := by
  rcases (show k < 20 ∨ ∃ j, k = j + 17 from by
    rcases Nat.lt_or_ge k 20 with q | q
    · exact Or.inl q
    · exact Or.inr ⟨k - 17, by omega⟩) with q | ⟨j, rfl⟩
  · exact q
  · simp [wC] at h
theorem wM_ge {u : cx_U} {ad : Nat → Nat → Nat} {S : cs_S} {sc : Nat → Nat → Int} {k i : Nat} {x : Nat × va_E} (h : wM u ad S sc k i = some x) : ¬ k < 20 := by
  intro q
  match k, q with
  | 0, _ => simp [wM] at h
  | 1, _ => simp [wM] at h
  | 2, _ => simp [wM] at h
  | 3, _ => simp [wM] at h
  | 4, _ => simp [wM] at h
  | 5, _ => simp [wM] at h
  | 6, _ => simp [wM] at h
  | 7, _ => simp [wM] at h
  | 8, _ => simp [wM] at h
  | 9, _ => simp [wM] at h
  | 10, _ => simp [wM] at h
  | 11, _ => simp [wM] at h
  | 12, _ => simp [wM] at h
  | 13, _ => simp [wM] at h
  | 14, _ => simp [wM] at h
  | 15, _ => simp [wM] at h
  | 16, _ => simp [wM] at h
  | 17, _ => simp [wM] at h
  | 18, _ => simp [wM] at h
  | 19, _ => simp [wM] at h
  | k + 20, q => omega
theorem lw_sC {u : cx_U} {ad : Nat → Nat → Nat} {S : cs_S} {sc : Nat → Nat → Int} {ad2 : Nat → Nat → Nat} {S2 : cs_S} {sc2 : Nat → Nat → Int} : ∀ (k i : Nat) (x : Nat × va_E), wC u ad S sc k i = some x → lw_w u ad S sc ad2 S2 sc2 k i = some x := fun k i x h => by
  unfold lw_w
  rw [if_pos (wC_lt h)]; exact h
theorem lw_sM {u : cx_U} {ad : Nat → Nat → Nat} {S : cs_S} {sc : Nat → Nat → Int} {ad2 : Nat → Nat → Nat} {S2 : cs_S} {sc2 : Nat → Nat → Int} : ∀ (k i : Nat) (x : Nat × va_E), wM u ad2 S2 sc2 k i = some x → lw_w u ad S sc ad2 S2 sc2 k i = some x := fun k i x h => by
  unfold lw_w
  rw [if_neg (wM_ge h)]; exact h
theorem lw_cv {u : cx_U} {ad : Nat → Nat → Nat} {S : cs_S} {sc : Nat → Nat → Int} {ad2 : Nat → Nat → Nat} {S2 : cs_S} {sc2 : Nat → Nat → Int} (k i : Nat) (x : Nat × va_E) (h : lw_w u ad S sc ad2 S2 sc2 k i = some x) : wC u ad S sc k i = some x ∨ wM u ad2 S2 sc2 k i = some x := by
  unfold lw_w at h
  split at h
  · exact Or.inl h
  · exact Or.inr h
section CXW
variable {p : Program} {l : Launch} {e : Env} {R : Room} {s : State} {m : MethodId} {args : Array Value} {below : List Frame} {meth : Method} {c : Code} {H : Heap} {locs : List Loc} {cells slots : Nat} {Q : State → Prop}
variable {cc : ByteArray} {pc nL : Nat} {ls : Array Slot} {rest : List Value} {own : String} {u : cx_U} {A : Nat → Prop} {w : cx_W}
variable {y : MethodName} {bytes : ByteArray} {maxL n index fr lo mc ms : Nat} {ret : Option FieldType} {b : Nat} {As : List Value} {wc : cx_W}
variable {ad : Nat → Nat → Nat} {S : cs_S} {sc : Nat → Nat → Int} {ad2 : Nat → Nat → Nat} {S2 : cs_S} {sc2 : Nat → Nat → Int}
/-- a call of the class's object -/
theorem lw_cC {r : Option Value} {G : cx_W → Prop} {S' : cs_S} (X : CallFix p m c cc nL s args GW own) (B : cx_B u A (lw_w u ad S sc ad2 S2 sc2) s H locs) (K : cx_KV GW y bytes maxL ret n) (hl : Cond.methodLink own index y ∈ GW) (hM : cx_M l u y bytes maxL ret fr lo (.ref (ad 0 0) :: As) (wC u ad S sc) H.size r G mc ms) (hG : ∀ w1, G w1 → ∃ ad1 sc1, ad1 0 0 = ad 0 0 ∧ w1 = wC u ad1 S' sc1)
    (hq : y.cls = na_C) (hR : fr + 1 ≤ R.frames ∧ 8 + (maxL + 11) + lo ≤ R.locals) (hf : cells + mc ≤ R.cells ∧ slots + ms ≤ R.slots) (hn : As.length = n) (hls : ls.size = nL) (hst : (rest.map fun v => v.category).sum ≤ 8) (hdg : decode cc pc = .ok (.invokevirtual index, 3))
    {st0 : List Value} (hs0 : st0 = As.reverse ++ .ref (ad 0 0) :: rest) (kk : ∀ (H : Heap) (locs : List Loc) (ad1 : Nat → Nat → Nat) (sc1 : Nat → Nat → Int), ad1 0 0 = ad 0 0 → cx_B u A (lw_w u ad1 S' sc1 ad2 S2 sc2) s H locs → W p l e R s m args below meth c H locs (cells + mc) (slots + ms) Q (F0 m (pc + 3) ls (r.toList ++ rest))) : W p l e R s m args below meth c H locs cells slots Q (F0 m pc ls st0) := by
  refine cx_goM (rest := rest) (r := r) (G := G) (wc := wC u ad S sc) (mc := mc) (ms := ms) B lw_sC ?_ ?_
  · exact va_runV (C := y.cls) X hM ⟨cx_cb (rm := cx_R fr lo mc ms) X K.2.2.2.1 K.2.2.1 K.2.2.2.2 hl hR, X.2.2.2.2 _ K.1, X.2.2.2.2 _ K.2.1⟩ ⟨cx_blM, by rw [hq]; exact cx_rcv (k := 0) (i := 0) (ci := 3) B rfl (lw_sC 0 0 _ (wC_0 u ad S sc)), fun U hU hW => ⟨rfl, by rw [hU], cx_atV B lw_sC U hU hW⟩⟩ rfl hn hls hs0 (lv_room hst) hdg hf
  · intro H1 locs1 w1 hg _ hk hP1 hD1 hS1 hF
    obtain ⟨ad1, sc1, h0, rfl⟩ := hG w1 hg
    obtain ⟨j1, j2⟩ := cx_join (wr := wM u ad2 S2 sc2) (w2 := lw_w u ad1 S' sc1 ad2 S2 sc2) B.2.1 B.2.2.1 lw_sC lw_sM (fun k i x y h1 h2 => wM_ge h2 (wC_lt h1)) hk hP1 hD1 hF lw_cv
    exact kk H1 locs1 ad1 sc1 h0 ⟨B.1, j1, j2, hS1, B.2.2.2.2⟩
/-- a call of the reference's object -/
theorem lw_cM {r : Option Value} {G : cx_W → Prop} {S' : cs_S} (X : CallFix p m c cc nL s args GW own) (B : cx_B u A (lw_w u ad S sc ad2 S2 sc2) s H locs) (K : cx_KV GW y bytes maxL ret n) (hl : Cond.methodLink own index y ∈ GW) (hM : cx_M l u y bytes maxL ret fr lo (.ref (ad2 20 0) :: As) (wM u ad2 S2 sc2) H.size r G mc ms) (hG : ∀ w1, G w1 → ∃ sc1, w1 = wM u ad2 S' sc1)
    (hq : y.cls = na_M) (hR : fr + 1 ≤ R.frames ∧ 8 + (maxL + 11) + lo ≤ R.locals) (hf : cells + mc ≤ R.cells ∧ slots + ms ≤ R.slots) (hn : As.length = n) (hls : ls.size = nL) (hst : (rest.map fun v => v.category).sum ≤ 8) (hdg : decode cc pc = .ok (.invokevirtual index, 3))
    {st0 : List Value} (hs0 : st0 = As.reverse ++ .ref (ad2 20 0) :: rest) (kk : ∀ (H : Heap) (locs : List Loc) (sc1 : Nat → Nat → Int), cx_B u A (lw_w u ad S sc ad2 S' sc1) s H locs → W p l e R s m args below meth c H locs (cells + mc) (slots + ms) Q (F0 m (pc + 3) ls (r.toList ++ rest))) : W p l e R s m args below meth c H locs cells slots Q (F0 m pc ls st0) := by
  refine cx_goM (rest := rest) (r := r) (G := G) (wc := wM u ad2 S2 sc2) (mc := mc) (ms := ms) B lw_sM ?_ ?_
  · exact va_runV (C := y.cls) X hM ⟨cx_cb (rm := cx_R fr lo mc ms) X K.2.2.2.1 K.2.2.1 K.2.2.2.2 hl hR, X.2.2.2.2 _ K.1, X.2.2.2.2 _ K.2.1⟩ ⟨cx_blM, by rw [hq]; exact cx_rcv (k := 20) (i := 0) (ci := 4) B rfl (lw_sM 20 0 _ (wM_20 u ad2 S2 sc2)), fun U hU hW => ⟨rfl, by rw [hU], cx_atV B lw_sM U hU hW⟩⟩ rfl hn hls hs0 (lv_room hst) hdg hf
  · intro H1 locs1 w1 hg _ hk hP1 hD1 hS1 hF
    obtain ⟨sc1, rfl⟩ := hG w1 hg
    obtain ⟨j1, j2⟩ := cx_join (wr := wC u ad S sc) (w2 := lw_w u ad S sc ad2 S' sc1) B.2.1 B.2.2.1 lw_sM lw_sC (fun k i x y h1 h2 => wM_ge h1 (wC_lt h2)) hk hP1 hD1 hF (fun k i x h => (lw_cv k i x h).symm)
    exact kk H1 locs1 sc1 ⟨B.1, j1, j2, hS1, B.2.2.2.2⟩
/-- the reference's constructor beside the class's world -/
theorem lw_cI {G : cx_W → Prop} {q : Nat} {e0 : va_E} (X : CallFix p m c cc nL s args GW own) (B : cx_B u A (cx_up (wC u ad S sc) 20 0 (q, e0)) s H locs) (K : cx_KI GW y bytes maxL n) (hl : Cond.methodLink own index y ∈ GW) (hM : cx_M l u y bytes maxL none fr lo (.ref q :: As) (cx_up (fun _ _ => none) 20 0 (q, e0)) H.size none G mc ms) (hG : ∀ w1, G w1 → ∃ ad1, ad1 20 0 = q ∧ w1 = wM u ad1 S2 sc2)
    (hR : fr + 1 ≤ R.frames ∧ 8 + (maxL + 11) + lo ≤ R.locals) (hf : cells + mc ≤ R.cells ∧ slots + ms ≤ R.slots) (hn : As.length = n) (hls : ls.size = nL) (hst : (rest.map fun v => v.category).sum ≤ 8) (hdg : decode cc pc = .ok (.invokespecial index, 3))
    {st0 : List Value} (hs0 : st0 = As.reverse ++ .ref q :: rest) (kk : ∀ (H : Heap) (locs : List Loc) (ad1 : Nat → Nat → Nat), ad1 20 0 = q → cx_B u A (lw_w u ad S sc ad1 S2 sc2) s H locs → W p l e R s m args below meth c H locs (cells + mc) (slots + ms) Q (F0 m (pc + 3) ls rest)) : W p l e R s m args below meth c H locs cells slots Q (F0 m pc ls st0) := by
  have hsub : ∀ (k i : Nat) (x : Nat × va_E), cx_up (fun _ _ => none) 20 0 (q, e0) k i = some x → cx_up (wC u ad S sc) 20 0 (q, e0) k i = some x := fun k i x h => by
    by_cases hz : k = 20 ∧ i = 0
    · obtain ⟨rfl, rfl⟩ := hz
      rw [cx_up_s] at h ⊢; exact h
    · rw [cx_up_n _ _ hz] at h; cases h
  have hsr : ∀ (k i : Nat) (x : Nat × va_E), wC u ad S sc k i = some x → cx_up (wC u ad S sc) 20 0 (q, e0) k i = some x := fun k i x h => by
    rw [cx_up_n _ _ (fun z => by have := wC_lt h; omega)]; exact h
  refine cx_goM (rest := rest) (r := none) (G := G) (wc := cx_up (fun _ _ => none) 20 0 (q, e0)) (mc := mc) (ms := ms) B hsub ?_ ?_
  · exact va_runI X hM ⟨cx_cb (rm := cx_R fr lo mc ms) X K.2.2.2.1 K.2.2.1 K.2.2.2.2 hl hR, K.1, X.2.2.2.2 _ K.2.1⟩ ⟨cx_blM, fun U hU hW => ⟨rfl, by rw [hU], cx_atV B hsub U hU hW⟩⟩ rfl hn hls hs0 (lv_room hst) hdg hf
  · intro H1 locs1 w1 hg _ hk hP1 hD1 hS1 hF
    obtain ⟨ad1, h0, rfl⟩ := hG w1 hg
    obtain ⟨j1, j2⟩ := cx_join (wr := wC u ad S sc) (w2 := lw_w u ad S sc ad1 S2 sc2) B.2.1 B.2.2.1 hsub hsr (fun k i x y h1 h2 => by
      by_cases hz : k = 20 ∧ i = 0
      · have := wC_lt h2; omega
      · rw [cx_up_n _ _ hz] at h1; cases h1) hk hP1 hD1 hF (fun k i x h => (lw_cv k i x h).symm)
    exact kk H1 locs1 ad1 h0 ⟨B.1, j1, j2, hS1, B.2.2.2.2⟩
/-- one int of the script -/
theorem lw_sld (X : CallFix p m c cc nL s args GW own) (B : cx_B u (fun q => s.heap.size ≤ q) w s H locs) {L : Nat} {xs : Nat → Int32} (hX : va_X b L xs s s.heap) (hbl : b < s.heap.size) {a v : Int} {j : Nat} (ha : a = (j : Int)) (hj : j < L) (hL : L ≤ 4096) (hv : xs j = jI v) (hdg : decode cc pc = .ok (.iaload, 1)) (kk : W p l e R s m args below meth c H locs cells slots Q (F0 m (pc + 1) ls (.int (jI v) :: rest))) : W p l e R s m args below meth c H locs cells slots Q (F0 m pc ls (.int (jI a) :: .ref b :: rest)) := by
  subst ha
  refine va_sld X.1 X.2.1 hX hbl (Nat.not_le.mpr hbl) B.2.2.2.1 (jI_in (by omega) (by omega) (by omega)) hdg ?_
  rw [jI_c (by omega) (by omega), cs_nn, hv]
  exact kk
theorem cx_lcmpR_eq (X : CallFix p m c cc nL s args GW own) {a b : Int64} {off : Int} {tgt : Nat} (hdl : decode cc pc = .ok (.lcmp, 1)) (hdg : decode cc (pc + 1) = .ok (.ifCond .eq off, 3)) (ht : ((pc + 1 : Nat) : Int) + off = (tgt : Int)) (kt : a = b → W p l e R s m args below meth c H locs cells slots Q (F0 m tgt ls rest)) (kf : ¬ a = b → W p l e R s m args below meth c H locs cells slots Q (F0 m (pc + 1 + 3) ls rest)) : W p l e R s m args below meth c H locs cells slots Q (F0 m pc ls (.long b :: .long a :: rest)) := W.lcmp X.1 X.2.1 hdl (lv_if_eq X.1 X.2.1 hdg ht (fun h => kt ((lg_cmp_eq _ _).mp h)) (fun h => kf (fun q => h ((lg_cmp_eq _ _).mpr q))))
end CXW
theorem lw_31 (x : Int32) : ∃ n : Nat, n < 32 ∧ x &&& jI 31 = jI (n : Int) := by
  refine ⟨x.toBitVec.toNat % 32, Nat.mod_lt _ (by decide), ?_⟩
  rw [← Int32.toBitVec_inj, Int32.toBitVec_and]
  apply BitVec.eq_of_toNat_eq
  have h1 : (jI 31).toBitVec.toNat = 31 := by decide +kernel
  have h2 : (jI ((x.toBitVec.toNat % 32 : Nat) : Int)).toBitVec.toNat = x.toBitVec.toNat % 32 := by
    have h3 : x.toBitVec.toNat % 32 < 32 := Nat.mod_lt _ (by decide)
    show (Int32.ofInt ((x.toBitVec.toNat % 32 : Nat) : Int)).toBitVec.toNat = _
    rw [show Int32.ofInt ((x.toBitVec.toNat % 32 : Nat) : Int) = Int32.ofNat (x.toBitVec.toNat % 32) from rfl]
    show (BitVec.ofNat 32 _).toNat = _
    rw [BitVec.toNat_ofNat, Nat.mod_eq_of_lt (by omega)]
  rw [BitVec.toNat_and, h1, h2]
  exact Nat.and_two_pow_sub_one_eq_mod _ 5
/-- the law's loop: from pc with k calls done (t of them counted in the room) it comes to its end -/
def lw_Go (p : Program) (l : Launch) (e : Env) (s : State) (m : MethodId) (below : List Frame) (meth : Method) (c : Code) (u : cx_U) (b k t pc : Nat) : Prop := ∀ (ad ad2 : Nat → Nat → Nat) (S : cs_S) (sc sc2 : Nat → Nat → Int) (H : Heap) (locs : List Loc) (ls : Array Slot), cs_K S → cx_B u (fun q => s.heap.size ≤ q) (lw_w u ad S sc ad2 S sc2) s H locs → lv_has ls 4 [(0, .ref b), (1, .ref (ad 0 0)), (2, .ref (ad2 20 0)), (3, .int (jI (8 * (k : Int))))] → W p l e room_1 s m #[Value.ref b] below meth c H locs (35 + 3 * t) (2056 + 35 * t) (lw_Z below #[Value.ref b] s) (F0 m pc ls [])
