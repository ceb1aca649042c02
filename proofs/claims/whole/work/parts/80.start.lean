set_option maxHeartbeats 4000000 in
set_option maxRecDepth 100000 in
/-- from the entry, for every script of at most 4096 ints, the law comes to its end with true -/
theorem whole_start {p : Program} {e : Env} {s : State} {m : MethodId} {below : List Frame} {meth : Method} {c : Code} (l : Launch) {b L : Nat} {xs : Nat → Int32} (hL : L ≤ 4096) (C0 : lw_At p s m meth c b L xs) : W p l e room_1 s m #[Value.ref b] below meth c s.heap [] 0 0 (lw_Z below #[Value.ref b] s) (entryFrame m ([Value.ref b] : List Value).toArray 4) := by
  obtain ⟨hx, hb, hr, hml, hown, hts, hX, hbl, hlocks, hgv⟩ := id C0
  have hg : ∀ w ∈ GW, w.before #[Value.ref b] s = true := fun w h => hts w (GW_tbl w h).1
  have X : CallFix p m c bc_W_law 4 s #[Value.ref b] GW "CatchSharesLaw" := ⟨hx, hb, hml, hown, hg⟩
  obtain ⟨c0, i0, k0⟩ := u_known (C := na_L) (T := fT_L) (N := 5) (n := 5) hg uw_L (hg _ gn_L)
  obtain ⟨c1, i1, k1⟩ := u_known (C := na_O) (T := fT_O) (N := 4) (n := 4) hg uw_O (hg _ gn_O)
  obtain ⟨c2, i2, k2⟩ := u_known (C := na_S) (T := fT_S) (N := 11) (n := 11) hg uw_S (hg _ gn_S)
  obtain ⟨c3, i3, k3⟩ := u_known (C := na_C) (T := fT_C) (N := 9) (n := 9) hg uw_C (hg _ gn_C)
  obtain ⟨c4, i4, k4⟩ := u_known (C := na_M) (T := fT_M) (N := 25) (n := 25) hg uw_M (hg _ gn_M)
  obtain ⟨cI, kI, pI, f1, f2, f3⟩ := Cond.arrayClass_spec (hg _ ga_int)
  obtain ⟨cJ, kJ, pJ, g1, g2, g3⟩ := Cond.arrayClass_spec (hg _ ga_long)
  obtain ⟨cZ, kZ, pZ, h1, h2, h3⟩ := Cond.arrayClass_spec (hg _ ga_boolean)
  have hao : (Cond.arrayOver (.object "CatchShares$Stock")).before #[Value.ref b] s = true := hts _ (by decide +kernel)
  obtain ⟨pS, cS, kS, e1, e2, e3, e4, e5⟩ := Cond.arrayOver_spec hao
  obtain ⟨u, hK⟩ : ∃ u : cx_U, va_K u.1 vw_cl (cx_ty u.2) s := by
    refine ⟨((fun k => match k with | 0 => c0 | 1 => c1 | 2 => c2 | 3 => c3 | _ => c4, fun k => match k with | 0 => i0 | 1 => i1 | 2 => i2 | 3 => i3 | _ => i4), fun k => match k with | 0 => cI | 1 => cJ | 2 => cZ | _ => cS), ?_, ?_⟩
    · intro k q hq
      match k, hq with
      | 0, hq => cases hq; exact k0
      | 1, hq => cases hq; exact k1
      | 2, hq => cases hq; exact k2
      | 3, hq => cases hq; exact k3
      | 4, hq => cases hq; exact k4
      | k + 5, hq => simp at hq
    · intro k q hq
      match k, hq with
      | 0, hq => cases hq; exact ⟨fun N z => ⟨(fun k h => by cases h), kI, f2, pI, f3⟩, f1⟩
      | 1, hq => cases hq; exact ⟨fun N z => ⟨(fun k h => by cases h), kJ, g2, pJ, g3⟩, g1⟩
      | 2, hq => cases hq; exact ⟨fun N z => ⟨(fun k h => by cases h), kZ, h2, pZ, h3⟩, h1⟩
      | 3, hq => cases hq; exact ⟨fun N z => ⟨(fun k h => by cases h), kS, e3, pS, e4⟩, kS, pS, e3, e4, e1, e5⟩
      | k + 4, hq => simp at hq
  have B : cx_B u (fun q => s.heap.size ≤ q) (fun _ _ => none) s s.heap [] := ⟨hK, (fun _ _ _ h => (by cases h)), ⟨(fun _ _ _ _ _ _ h => (by cases h)), (fun _ _ _ h => (by cases h))⟩, va_S.rf, fun _ h => h, va_AO.of hao, va_Nw.of rfl (hts cx_nl (by decide +kernel))⟩
  have hl := lv_entry ([.ref b]) (n := 4) (Nat.le_of_ble_eq_true rfl)
  rw [lg_entry_eq]
  generalize (lg_sl ([.ref b]) ++ List.replicate (4 - (lg_sl ([.ref b])).length) Slot.unset).toArray = ls at hl ⊢
  have hl : lv_has ls 4 [(0, .ref b)] := hl
  refine cx_new (fs := [.null, .int (jI (0)), .null, .null, .int (jI (0)), .null, .null, .int (jI (0)), .int (jI (0))]) X B 0 0 uw_C ft_C fo_C gc_W_7 gn_C gi_C (ci := 3) rfl nf_C (Nat.le_of_ble_eq_true rfl) (Nat.le_of_ble_eq_true rfl) dc_W_law_0 (fun q1 H B => ?_)
  refine lv_dup X.1 X.2.1 dc_W_law_3 rfl ?_
  refine cx_cI (As := []) (rest := [.ref q1]) X B kc_C_init gm_W_9 (c_C_init l u _ q1) ⟨(Nat.le_of_ble_eq_true rfl), (Nat.le_of_ble_eq_true rfl)⟩ ⟨(Nat.le_of_ble_eq_true rfl), (Nat.le_of_ble_eq_true rfl)⟩ rfl hl.1 (Nat.le_of_ble_eq_true rfl) dc_W_law_4 rfl (fun H locs w' hw B => ?_)
  obtain ⟨ad, had, rfl⟩ := hw
  rw [← had]
  refine lv_astore_n (lv' := [(1, .ref (ad 0 0)), (0, .ref b)]) X.1 X.2.1 dc_W_law_7 rfl hl (by decide) rfl (fun ls hl => ?_)
  refine cx_new (fs := [.int (jI (0)), .null, .null, .null, .null, .null, .null, .null, .null, .int (jI (0)), .null, .null, .null, .null, .null, .int (jI (0)), .null, .null, .null, .int (jI (0)), .int (jI (0)), .null, .null, .null, .null]) X B 20 0 uw_M ft_M fo_M gc_W_10 gn_M gi_M (ci := 4) rfl nf_M (Nat.le_of_ble_eq_true rfl) (Nat.le_of_ble_eq_true rfl) dc_W_law_8 (fun q2 H B => ?_)
  refine lv_dup X.1 X.2.1 dc_W_law_11 rfl ?_
  refine lw_cI (As := []) (rest := [.ref q2]) (S2 := cs_0) (sc2 := fun _ _ => 0) X B kc_M_init gm_W_12 (c_M_init l u _ q2) (fun w1 h => h) ⟨(Nat.le_of_ble_eq_true rfl), (Nat.le_of_ble_eq_true rfl)⟩ ⟨(Nat.le_of_ble_eq_true rfl), (Nat.le_of_ble_eq_true rfl)⟩ rfl hl.1 (Nat.le_of_ble_eq_true rfl) dc_W_law_12 rfl (fun H locs ad2 had2 B => ?_)
  rw [← had2]
  refine lv_astore_n (lv' := [(2, .ref (ad2 20 0)), (1, .ref (ad 0 0)), (0, .ref b)]) X.1 X.2.1 dc_W_law_15 rfl hl (by decide) rfl (fun ls hl => ?_)
  refine cx_iconst X dc_W_law_16 ?_
  refine lv_istore_n (lv' := [(3, .int (jI 0)), (2, .ref (ad2 20 0)), (1, .ref (ad 0 0)), (0, .ref b)]) X.1 X.2.1 dc_W_law_17 rfl hl (by decide) rfl (fun ls hl => ?_)
  refine W.widen (k := 35 + 3 * 0) (n := 2056 + 35 * 0) (by omega) (by omega) ?_
  exact lw_loop X hX hbl hL hr hlocks (L + 1) 0 (by omega) (by omega) ad ad2 cs_0 (fun _ _ => 0) (fun _ _ => 0) H locs ls K_0 B (lv_sub hl [3, 2, 1, 0] rfl)
set_option maxHeartbeats 4000000 in
theorem lw_walk (l : Launch) (b : Addr) (xs : List Int32) : MetFree l x (headSpec (Jvm.Cond.code x code maxLocals ret :: tables_1) room_1) (lw_P b xs) (fun _ _ _ _ _ => True) lw_Q := by
  refine MetFree.of_bodyS (code := code) (maxLocals := maxLocals) (ret := ret) (by decide) ?_ ?_
  · intro args s m h hn
    obtain ⟨meth, c, h1, h2, h3, h4, h5, h6, -, -⟩ := Cond.code_spec hn (atoms_spec (ws := Jvm.Cond.code x code maxLocals ret :: tables_1) h _ List.mem_cons_self)
    exact ⟨meth, c, h1, h2, h3, h4, h5, h6⟩
  · intro p e s m args below meth c s₁ B hml0 hP _
    obtain ⟨rfl, hx, hbd, hgv⟩ := hP
    obtain ⟨scr, harrAt, hlist, hof, hsmall⟩ := hx
    obtain ⟨hcb, hkn, -, -⟩ := State.arrayAt?_spec harrAt
    have hown : s.vm.findClass R_law = some m.cls := findClass_of_methodNamed B.named
    have hts0 : ∀ c ∈ (Jvm.Cond.code x code maxLocals ret :: tables_1), c.before #[Value.ref b] s = true := atoms_spec (ws := Jvm.Cond.code x code maxLocals ret :: tables_1) B.pre
    have hts : ∀ w ∈ lw_tbl, w.before #[Value.ref b] s = true := k2_hts_sels lw_privs (fun w hw => hts0 w (List.mem_cons_of_mem _ hw)) lw_privs_ok
    have hml : c.maxLocals = 4 := B.maxLocals_eq (hts0 _ List.mem_cons_self)
    have X₀ : Stand p l e room_1 s m #[Value.ref b] below meth c s₁ [] 0 0 := Stand.of_body B
    have hh0 : s₁.heap = s.heap := by rw [B.state]; rfl
    have hsz : scr.slots.size = xs.length := by rw [← Array.length_toList, hlist, List.length_map]
    have hval : ∀ j : Nat, j < xs.length → scr.slots[j]? = some (.int (xs.getD j 0)) := fun j hj => by
      rw [← Array.getElem?_toList, hlist]
      simp [hj]
    have hbl : b < s.heap.size := (Array.getElem?_eq_some_iff.mp hcb).1
    have hX : va_X b xs.length (fun j => xs.getD j 0) s s.heap := ⟨scr, hcb, hof, hkn, hsz, hval⟩
    have K : W p l e room_1 s m #[Value.ref b] below meth c s₁.heap [] 0 0 (lw_Z below #[Value.ref b] s) (entryFrame m ([Value.ref b] : List Value).toArray 4) := by
      rw [hh0]
      exact whole_start l hbd ⟨B.exec, B.bytes, B.returns, hml, hown, hts, hX, hbl, B.notSynchronized, hgv⟩
    obtain ⟨t, a1, o, b1, b2, b3⟩ := K s₁ rfl X₀
    exact ⟨t, o, a1, b1, b2, b3⟩
theorem lw_pre_spec {args : Array Value} {s : State} (h : (Jvm.Cond.and given_1 narrow_1).before args s = true) (hr : rest_1_c.before args s = true) : ∃ (b : Addr) (xs : List Int32), lw_P b xs args s := by
  have hs := flat_of_before _ h
  have hq := flat_of_before _ hr
  have hc : (Cond.count 1).before args s = true := hs _ (by decide +kernel)
  have harr : (Cond.arrayOf (.arg 0) .int).before args s = true := hs _ (by decide +kernel)
  have hle : (Cond.le (.length (.arg 0)) (.int 4096)).before args s = true := hs _ (by decide +kernel)
  have hlen : (Cond.isInt (.length (.arg 0))).before args s = true := hq _ (by decide +kernel)
  have hall : (Cond.all (.arg 0) (.isInt (.elem (.arg 0) (.index 0)))).before args s = true := hq _ (by decide +kernel)
  obtain ⟨b, xs, hb, hx⟩ := State.ints_of_pre rfl harr hlen hall
  have hsm : xs.length < 2 ^ 31 := hx.choose_spec.2.2.2
  have hev : (Term.length (.arg 0)).eval args s none [] s = some (.int xs.length.toInt32) := hx.length_eval hb
  have hv := Cond.le_ints hev (show (Term.int 4096).eval args s none [] s = some (.int 4096) from rfl)
  have hd : xs.length.toInt32 ≤ 4096 := by
    simpa [Cond.before, Cond.holds, hv] using hle
  have hN : xs.length ≤ 4096 := (Int32.ofNat_le_ofNat hsm (by decide)).mp (show Int32.ofNat xs.length ≤ Int32.ofNat 4096 from hd)
  exact ⟨b, xs, Cond.one_arg hc (show args[0]? = some (.ref b) from hb), hx, hN, h⟩
theorem lw_comes (l : Launch) : Comes l x (Jvm.Cond.code x code maxLocals ret :: tables_1) room_1 (fun tb e args s => Calls_1 tb e args s ∧ rest_1 tb e args s ∧ Pre_1 tb e args s)
    (fun _ _ args s o t => lw_Q args s o t) := by
  intro p e ha hc hk s m args below hf hfit hheap happ hpre
  obtain ⟨b, xs, hP⟩ := lw_pre_spec hpre.2.2 hpre.2.1
  obtain ⟨k, o, h1, h2, h3, hQ⟩ := lw_walk l b xs p e ha hc hk s m args below hf ((Spec.applies_iff_loose hf).mp happ).1 hP trivial
  exact ⟨k, o, h1, h2, h3, hQ⟩
theorem lw_frame {s t : State} {o : Outcome} {args : Array Value} (h : Framed s o t [] 600000 7302250) :
    Framed s o t (fieldLocs frame_1_writes args s ++ arrayLocs frame_1_arrays args s ++ staticLocs frame_1_statics s) 600000 7302250 := h
theorem lw_limb (L : Cond) (hL : ∀ (args : Array Value) (s t : State), L.after args s (.returned (some (.int 1))) t = true) :
    ArmFor flags0 classFile x code maxLocals ret World_1 tables_1 room_1 Calls_1 rest_1 Pre_1
      (fun tb e a s o t => postC L tb e a s o t ∧ Framed s o t (fieldLocs frame_1_writes a s ++ arrayLocs frame_1_arrays a s ++ staticLocs frame_1_statics s) 600000 7302250) := by
  intro l _ _ _ p e ha hc hk s m args below hf hfit hheap happ hpre
  obtain ⟨k, o, h1, h2, h3, rfl, hF⟩ := lw_comes l p e ha hc hk s m args below hf hfit hheap happ hpre
  exact ⟨k, _, h1, h2, h3, hL args s _, lw_frame hF⟩
theorem i_vc : Claimed_1_1 ∧ Claimed_1_2 := ⟨lw_limb limb_1_1 (fun args s t => by simp [limb_1_1, Cond.after, Cond.holds, Cond.value]), lw_limb limb_1_2 (fun args s t => Cond.after_iff.mpr (by
  first | (rw [show limb_1_2 = Cond.eq .result (.int 1) from rfl, Cond.eq_ints (x := 1) (y := 1) rfl rfl]; simp; done) | (simp [limb_1_2, Cond.value, Term.eval]; done)))⟩
