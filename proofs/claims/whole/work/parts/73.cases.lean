set_option maxHeartbeats 4000000 in
set_option maxRecDepth 100000 in
theorem lw_case_14 {p : Program} {l : Launch} {e : Env} {s : State} {m : MethodId} {below : List Frame} {meth : Method} {c : Code} {u : cx_U} {b L : Nat} {xs : Nat → Int32} (X : CallFix p m c bc_W_law 4 s #[Value.ref b] GW "CatchSharesLaw") (hX : va_X b L xs s s.heap) (hbl : b < s.heap.size) (hL : L ≤ 4096) {k : Nat} (hk : 8 * k + 8 ≤ L) (kk : lw_Go p l e s m below meth c u b k (k + 1) 1355) : lw_Go p l e s m below meth c u b k k 884 := by
  intro ad ad2 S sc sc2 H locs ls K B hl
  obtain ⟨v0, v01, v02, ev1⟩ := jI_R (xs (8 * k + 1))
  obtain ⟨v1, v11, v12, ev2⟩ := jI_R (xs (8 * k + 2))
  refine lv_aload_n X.1 X.2.1 dc_W_law_884 rfl (lv_at hl 1 rfl) ?_
  refine lv_aload_n X.1 X.2.1 dc_W_law_885 rfl (lv_at hl 0 rfl) ?_
  refine lv_iload_n X.1 X.2.1 dc_W_law_886 rfl (lv_at hl 3 rfl) ?_
  refine cx_iconst X dc_W_law_887 ?_
  refine cx_iadd X dc_W_law_888 ?_
  refine lw_sld X B hX hbl (j := 8 * k + 1) (by omega) (by omega) hL ev1 dc_W_law_889 ?_
  refine lv_aload_n X.1 X.2.1 dc_W_law_890 rfl (lv_at hl 0 rfl) ?_
  refine lv_iload_n X.1 X.2.1 dc_W_law_891 rfl (lv_at hl 3 rfl) ?_
  refine cx_iconst X dc_W_law_892 ?_
  refine cx_iadd X dc_W_law_893 ?_
  refine lw_sld X B hX hbl (j := 8 * k + 2) (by omega) (by omega) hL ev2 dc_W_law_894 ?_
  refine lw_cC (S' := (op_into S v0 v1)) X B kc_C_into gm_W_81 (c_C_into l u _ ad S sc K.1  v0 v1 v01 v02 v11 v12) (fun w1 h => ⟨ad, sc, rfl, h⟩) rfl ⟨(Nat.le_of_ble_eq_true rfl), (Nat.le_of_ble_eq_true rfl)⟩ ⟨(by show _ ≤ 600000; omega), (by show _ ≤ 7302250; omega)⟩ rfl hl.1 (Nat.le_of_ble_eq_true rfl) dc_W_law_895 rfl (fun H locs ad1 sc1 had B => ?_)
  rw [← had] at hl
  clear had
  refine lv_aload_n X.1 X.2.1 dc_W_law_898 rfl (lv_at hl 2 rfl) ?_
  refine lv_aload_n X.1 X.2.1 dc_W_law_899 rfl (lv_at hl 0 rfl) ?_
  refine lv_iload_n X.1 X.2.1 dc_W_law_900 rfl (lv_at hl 3 rfl) ?_
  refine cx_iconst X dc_W_law_901 ?_
  refine cx_iadd X dc_W_law_902 ?_
  refine lw_sld X B hX hbl (j := 8 * k + 1) (by omega) (by omega) hL ev1 dc_W_law_903 ?_
  refine lv_aload_n X.1 X.2.1 dc_W_law_904 rfl (lv_at hl 0 rfl) ?_
  refine lv_iload_n X.1 X.2.1 dc_W_law_905 rfl (lv_at hl 3 rfl) ?_
  refine cx_iconst X dc_W_law_906 ?_
  refine cx_iadd X dc_W_law_907 ?_
  refine lw_sld X B hX hbl (j := 8 * k + 2) (by omega) (by omega) hL ev2 dc_W_law_908 ?_
  refine lw_cM (S' := (op_into S v0 v1)) X B kc_M_into gm_W_84 (c_M_into l u _ ad2 S sc2 K.1  v0 v1 v01 v02 v11 v12) (fun w1 h => ⟨sc2, h⟩) rfl ⟨(Nat.le_of_ble_eq_true rfl), (Nat.le_of_ble_eq_true rfl)⟩ ⟨(by show _ ≤ 600000; omega), (by show _ ≤ 7302250; omega)⟩ rfl hl.1 (Nat.le_of_ble_eq_true rfl) dc_W_law_909 rfl (fun H locs sc3 B => ?_)
  refine lv_icmp_eq (tgt := 1355) X.1 X.2.1 dc_W_law_912 (by decide) (fun _ => ?_) (fun q => absurd rfl q)
  refine W.widen (k := 35 + 3 * (k + 1)) (n := 2056 + 35 * (k + 1)) (by omega) (by omega) ?_
  exact kk _ _ _ _ _ _ _ _ (K_into K v0 v1) B hl
set_option maxHeartbeats 4000000 in
set_option maxRecDepth 100000 in
theorem lw_case_15 {p : Program} {l : Launch} {e : Env} {s : State} {m : MethodId} {below : List Frame} {meth : Method} {c : Code} {u : cx_U} {b L : Nat} {xs : Nat → Int32} (X : CallFix p m c bc_W_law 4 s #[Value.ref b] GW "CatchSharesLaw") (hX : va_X b L xs s s.heap) (hbl : b < s.heap.size) (hL : L ≤ 4096) {k : Nat} (hk : 8 * k + 8 ≤ L) (kk : lw_Go p l e s m below meth c u b k (k + 1) 1355) : lw_Go p l e s m below meth c u b k k 917 := by
  intro ad ad2 S sc sc2 H locs ls K B hl
  obtain ⟨v0, v01, v02, ev1⟩ := jI_R (xs (8 * k + 1))
  obtain ⟨v1, v11, v12, ev2⟩ := jI_R (xs (8 * k + 2))
  refine lv_aload_n X.1 X.2.1 dc_W_law_917 rfl (lv_at hl 1 rfl) ?_
  refine lv_aload_n X.1 X.2.1 dc_W_law_918 rfl (lv_at hl 0 rfl) ?_
  refine lv_iload_n X.1 X.2.1 dc_W_law_919 rfl (lv_at hl 3 rfl) ?_
  refine cx_iconst X dc_W_law_920 ?_
  refine cx_iadd X dc_W_law_921 ?_
  refine lw_sld X B hX hbl (j := 8 * k + 1) (by omega) (by omega) hL ev1 dc_W_law_922 ?_
  refine lv_aload_n X.1 X.2.1 dc_W_law_923 rfl (lv_at hl 0 rfl) ?_
  refine lv_iload_n X.1 X.2.1 dc_W_law_924 rfl (lv_at hl 3 rfl) ?_
  refine cx_iconst X dc_W_law_925 ?_
  refine cx_iadd X dc_W_law_926 ?_
  refine lw_sld X B hX hbl (j := 8 * k + 2) (by omega) (by omega) hL ev2 dc_W_law_927 ?_
  refine cx_cVN X B kc_C_pooled gm_W_85 (c_C_pooled l u ad S sc K.1  v0 v1 v01 v02 v11 v12) lw_sC (lw_sC 0 0 _ (wC_0 u ad S sc)) rfl rfl ⟨(Nat.le_of_ble_eq_true rfl), (Nat.le_of_ble_eq_true rfl)⟩ ⟨(by show _ ≤ 600000; omega), (by show _ ≤ 7302250; omega)⟩ rfl hl.1 (Nat.le_of_ble_eq_true rfl) dc_W_law_928 rfl ?_
  refine lv_aload_n X.1 X.2.1 dc_W_law_931 rfl (lv_at hl 2 rfl) ?_
  refine lv_aload_n X.1 X.2.1 dc_W_law_932 rfl (lv_at hl 0 rfl) ?_
  refine lv_iload_n X.1 X.2.1 dc_W_law_933 rfl (lv_at hl 3 rfl) ?_
  refine cx_iconst X dc_W_law_934 ?_
  refine cx_iadd X dc_W_law_935 ?_
  refine lw_sld X B hX hbl (j := 8 * k + 1) (by omega) (by omega) hL ev1 dc_W_law_936 ?_
  refine lv_aload_n X.1 X.2.1 dc_W_law_937 rfl (lv_at hl 0 rfl) ?_
  refine lv_iload_n X.1 X.2.1 dc_W_law_938 rfl (lv_at hl 3 rfl) ?_
  refine cx_iconst X dc_W_law_939 ?_
  refine cx_iadd X dc_W_law_940 ?_
  refine lw_sld X B hX hbl (j := 8 * k + 2) (by omega) (by omega) hL ev2 dc_W_law_941 ?_
  refine cx_cVN X B kc_M_pooled gm_W_88 (c_M_pooled l u ad2 S sc2 K.1  v0 v1 v01 v02 v11 v12) lw_sM (lw_sM 20 0 _ (wM_20 u ad2 S sc2)) rfl rfl ⟨(Nat.le_of_ble_eq_true rfl), (Nat.le_of_ble_eq_true rfl)⟩ ⟨(by show _ ≤ 600000; omega), (by show _ ≤ 7302250; omega)⟩ rfl hl.1 (Nat.le_of_ble_eq_true rfl) dc_W_law_942 rfl ?_
  refine cx_lcmpR_eq (tgt := 1355) X dc_W_law_945 dc_W_law_946 (by decide) (fun _ => ?_) (fun q => absurd rfl q)
  refine W.widen (k := 35 + 3 * (k + 1)) (n := 2056 + 35 * (k + 1)) (by omega) (by omega) ?_
  exact kk _ _ _ _ _ _ _ _ K B hl
set_option maxHeartbeats 4000000 in
set_option maxRecDepth 100000 in
theorem lw_case_16 {p : Program} {l : Launch} {e : Env} {s : State} {m : MethodId} {below : List Frame} {meth : Method} {c : Code} {u : cx_U} {b L : Nat} {xs : Nat → Int32} (X : CallFix p m c bc_W_law 4 s #[Value.ref b] GW "CatchSharesLaw") (hX : va_X b L xs s s.heap) (hbl : b < s.heap.size) (hL : L ≤ 4096) {k : Nat} (hk : 8 * k + 8 ≤ L) (kk : lw_Go p l e s m below meth c u b k (k + 1) 1355) : lw_Go p l e s m below meth c u b k k 951 := by
  intro ad ad2 S sc sc2 H locs ls K B hl
  have hH := cs_H_of K.1 K.2.1 K.2.2.2.2.2.2.2.2
  obtain ⟨v0, v01, v02, ev1⟩ := jI_R (xs (8 * k + 1))
  obtain ⟨v1, v11, v12, ev2⟩ := jI_R (xs (8 * k + 2))
  obtain ⟨v2, v21, v22, ev3⟩ := jI_R (xs (8 * k + 3))
  refine lv_aload_n X.1 X.2.1 dc_W_law_951 rfl (lv_at hl 1 rfl) ?_
  refine lv_aload_n X.1 X.2.1 dc_W_law_952 rfl (lv_at hl 0 rfl) ?_
  refine lv_iload_n X.1 X.2.1 dc_W_law_953 rfl (lv_at hl 3 rfl) ?_
  refine cx_iconst X dc_W_law_954 ?_
  refine cx_iadd X dc_W_law_955 ?_
  refine lw_sld X B hX hbl (j := 8 * k + 1) (by omega) (by omega) hL ev1 dc_W_law_956 ?_
  refine lv_aload_n X.1 X.2.1 dc_W_law_957 rfl (lv_at hl 0 rfl) ?_
  refine lv_iload_n X.1 X.2.1 dc_W_law_958 rfl (lv_at hl 3 rfl) ?_
  refine cx_iconst X dc_W_law_959 ?_
  refine cx_iadd X dc_W_law_960 ?_
  refine lw_sld X B hX hbl (j := 8 * k + 2) (by omega) (by omega) hL ev2 dc_W_law_961 ?_
  refine lv_aload_n X.1 X.2.1 dc_W_law_962 rfl (lv_at hl 0 rfl) ?_
  refine lv_iload_n X.1 X.2.1 dc_W_law_963 rfl (lv_at hl 3 rfl) ?_
  refine cx_iconst X dc_W_law_964 ?_
  refine cx_iadd X dc_W_law_965 ?_
  refine lw_sld X B hX hbl (j := 8 * k + 3) (by omega) (by omega) hL ev3 dc_W_law_966 ?_
  refine lw_cC (S' := (op_owns S v0 v1 v2)) X B kc_C_owns gm_W_89 (c_C_owns l u _ ad S sc K.1 K.2.1 hH v0 v1 v2 v01 v02 v11 v12 v21 v22) (fun w1 h => by obtain ⟨sc1, h1⟩ := h; exact ⟨ad, sc1, rfl, h1⟩) rfl ⟨(Nat.le_of_ble_eq_true rfl), (Nat.le_of_ble_eq_true rfl)⟩ ⟨(by show _ ≤ 600000; omega), (by show _ ≤ 7302250; omega)⟩ rfl hl.1 (Nat.le_of_ble_eq_true rfl) dc_W_law_967 rfl (fun H locs ad1 sc1 had B => ?_)
  rw [← had] at hl
  clear had
  refine lv_aload_n X.1 X.2.1 dc_W_law_970 rfl (lv_at hl 2 rfl) ?_
  refine lv_aload_n X.1 X.2.1 dc_W_law_971 rfl (lv_at hl 0 rfl) ?_
  refine lv_iload_n X.1 X.2.1 dc_W_law_972 rfl (lv_at hl 3 rfl) ?_
  refine cx_iconst X dc_W_law_973 ?_
  refine cx_iadd X dc_W_law_974 ?_
  refine lw_sld X B hX hbl (j := 8 * k + 1) (by omega) (by omega) hL ev1 dc_W_law_975 ?_
  refine lv_aload_n X.1 X.2.1 dc_W_law_976 rfl (lv_at hl 0 rfl) ?_
  refine lv_iload_n X.1 X.2.1 dc_W_law_977 rfl (lv_at hl 3 rfl) ?_
  refine cx_iconst X dc_W_law_978 ?_
  refine cx_iadd X dc_W_law_979 ?_
  refine lw_sld X B hX hbl (j := 8 * k + 2) (by omega) (by omega) hL ev2 dc_W_law_980 ?_
  refine lv_aload_n X.1 X.2.1 dc_W_law_981 rfl (lv_at hl 0 rfl) ?_
  refine lv_iload_n X.1 X.2.1 dc_W_law_982 rfl (lv_at hl 3 rfl) ?_
  refine cx_iconst X dc_W_law_983 ?_
  refine cx_iadd X dc_W_law_984 ?_
  refine lw_sld X B hX hbl (j := 8 * k + 3) (by omega) (by omega) hL ev3 dc_W_law_985 ?_
  refine lw_cM (S' := (op_owns S v0 v1 v2)) X B kc_M_owns gm_W_93 (c_M_owns l u _ ad2 S sc2 K.1 K.2.1 hH v0 v1 v2 v01 v02 v11 v12 v21 v22) (fun w1 h => h) rfl ⟨(Nat.le_of_ble_eq_true rfl), (Nat.le_of_ble_eq_true rfl)⟩ ⟨(by show _ ≤ 600000; omega), (by show _ ≤ 7302250; omega)⟩ rfl hl.1 (Nat.le_of_ble_eq_true rfl) dc_W_law_986 rfl (fun H locs sc3 B => ?_)
  refine lv_icmp_eq (tgt := 1355) X.1 X.2.1 dc_W_law_989 (by decide) (fun _ => ?_) (fun q => absurd rfl q)
  refine W.widen (k := 35 + 3 * (k + 1)) (n := 2056 + 35 * (k + 1)) (by omega) (by omega) ?_
  exact kk _ _ _ _ _ _ _ _ (K_owns K v0 v1 v2) B hl
set_option maxHeartbeats 4000000 in
set_option maxRecDepth 100000 in
theorem lw_case_17 {p : Program} {l : Launch} {e : Env} {s : State} {m : MethodId} {below : List Frame} {meth : Method} {c : Code} {u : cx_U} {b L : Nat} {xs : Nat → Int32} (X : CallFix p m c bc_W_law 4 s #[Value.ref b] GW "CatchSharesLaw") (hX : va_X b L xs s s.heap) (hbl : b < s.heap.size) (hL : L ≤ 4096) {k : Nat} (hk : 8 * k + 8 ≤ L) (kk : lw_Go p l e s m below meth c u b k (k + 1) 1355) : lw_Go p l e s m below meth c u b k k 994 := by
  intro ad ad2 S sc sc2 H locs ls K B hl
  obtain ⟨v0, v01, v02, ev1⟩ := jI_R (xs (8 * k + 1))
  obtain ⟨v1, v11, v12, ev2⟩ := jI_R (xs (8 * k + 2))
  refine lv_aload_n X.1 X.2.1 dc_W_law_994 rfl (lv_at hl 1 rfl) ?_
  refine lv_aload_n X.1 X.2.1 dc_W_law_995 rfl (lv_at hl 0 rfl) ?_
  refine lv_iload_n X.1 X.2.1 dc_W_law_996 rfl (lv_at hl 3 rfl) ?_
  refine cx_iconst X dc_W_law_997 ?_
  refine cx_iadd X dc_W_law_998 ?_
  refine lw_sld X B hX hbl (j := 8 * k + 1) (by omega) (by omega) hL ev1 dc_W_law_999 ?_
  refine lv_aload_n X.1 X.2.1 dc_W_law_1000 rfl (lv_at hl 0 rfl) ?_
  refine lv_iload_n X.1 X.2.1 dc_W_law_1001 rfl (lv_at hl 3 rfl) ?_
  refine cx_iconst X dc_W_law_1002 ?_
  refine cx_iadd X dc_W_law_1003 ?_
  refine lw_sld X B hX hbl (j := 8 * k + 2) (by omega) (by omega) hL ev2 dc_W_law_1004 ?_
  refine lw_cC (S' := S) X B kc_C_hold gm_W_94 (c_C_hold l u _ ad S sc K.1 K.2.1 v0 v1 v01 v02 v11 v12) (fun w1 h => by obtain ⟨sc1, h1⟩ := h; exact ⟨ad, sc1, rfl, h1⟩) rfl ⟨(Nat.le_of_ble_eq_true rfl), (Nat.le_of_ble_eq_true rfl)⟩ ⟨(by show _ ≤ 600000; omega), (by show _ ≤ 7302250; omega)⟩ rfl hl.1 (Nat.le_of_ble_eq_true rfl) dc_W_law_1005 rfl (fun H locs ad1 sc1 had B => ?_)
  rw [← had] at hl
  clear had
  refine lv_aload_n X.1 X.2.1 dc_W_law_1008 rfl (lv_at hl 2 rfl) ?_
  refine lv_aload_n X.1 X.2.1 dc_W_law_1009 rfl (lv_at hl 0 rfl) ?_
  refine lv_iload_n X.1 X.2.1 dc_W_law_1010 rfl (lv_at hl 3 rfl) ?_
  refine cx_iconst X dc_W_law_1011 ?_
  refine cx_iadd X dc_W_law_1012 ?_
  refine lw_sld X B hX hbl (j := 8 * k + 1) (by omega) (by omega) hL ev1 dc_W_law_1013 ?_
  refine lv_aload_n X.1 X.2.1 dc_W_law_1014 rfl (lv_at hl 0 rfl) ?_
  refine lv_iload_n X.1 X.2.1 dc_W_law_1015 rfl (lv_at hl 3 rfl) ?_
  refine cx_iconst X dc_W_law_1016 ?_
  refine cx_iadd X dc_W_law_1017 ?_
  refine lw_sld X B hX hbl (j := 8 * k + 2) (by omega) (by omega) hL ev2 dc_W_law_1018 ?_
  refine lw_cM (S' := S) X B kc_M_hold gm_W_97 (c_M_hold l u _ ad2 S sc2 K.1 K.2.1 v0 v1 v01 v02 v11 v12) (fun w1 h => h) rfl ⟨(Nat.le_of_ble_eq_true rfl), (Nat.le_of_ble_eq_true rfl)⟩ ⟨(by show _ ≤ 600000; omega), (by show _ ≤ 7302250; omega)⟩ rfl hl.1 (Nat.le_of_ble_eq_true rfl) dc_W_law_1019 rfl (fun H locs sc3 B => ?_)
  refine cx_lcmpR_eq (tgt := 1355) X dc_W_law_1022 dc_W_law_1023 (by decide) (fun _ => ?_) (fun q => absurd rfl q)
  refine W.widen (k := 35 + 3 * (k + 1)) (n := 2056 + 35 * (k + 1)) (by omega) (by omega) ?_
  exact kk _ _ _ _ _ _ _ _ K B hl
set_option maxHeartbeats 4000000 in
set_option maxRecDepth 100000 in
theorem lw_case_18 {p : Program} {l : Launch} {e : Env} {s : State} {m : MethodId} {below : List Frame} {meth : Method} {c : Code} {u : cx_U} {b L : Nat} {xs : Nat → Int32} (X : CallFix p m c bc_W_law 4 s #[Value.ref b] GW "CatchSharesLaw") (hX : va_X b L xs s s.heap) (hbl : b < s.heap.size) (hL : L ≤ 4096) {k : Nat} (hk : 8 * k + 8 ≤ L) (kk : lw_Go p l e s m below meth c u b k (k + 1) 1355) : lw_Go p l e s m below meth c u b k k 1028 := by
  intro ad ad2 S sc sc2 H locs ls K B hl
  obtain ⟨v0, v01, v02, ev1⟩ := jI_R (xs (8 * k + 1))
  obtain ⟨v1, v11, v12, ev2⟩ := jI_R (xs (8 * k + 2))
  refine lv_aload_n X.1 X.2.1 dc_W_law_1028 rfl (lv_at hl 1 rfl) ?_
  refine lv_aload_n X.1 X.2.1 dc_W_law_1029 rfl (lv_at hl 0 rfl) ?_
  refine lv_iload_n X.1 X.2.1 dc_W_law_1030 rfl (lv_at hl 3 rfl) ?_
  refine cx_iconst X dc_W_law_1031 ?_
  refine cx_iadd X dc_W_law_1032 ?_
  refine lw_sld X B hX hbl (j := 8 * k + 1) (by omega) (by omega) hL ev1 dc_W_law_1033 ?_
  refine lv_aload_n X.1 X.2.1 dc_W_law_1034 rfl (lv_at hl 0 rfl) ?_
  refine lv_iload_n X.1 X.2.1 dc_W_law_1035 rfl (lv_at hl 3 rfl) ?_
  refine cx_iconst X dc_W_law_1036 ?_
  refine cx_iadd X dc_W_law_1037 ?_
  refine lw_sld X B hX hbl (j := 8 * k + 2) (by omega) (by omega) hL ev2 dc_W_law_1038 ?_
  refine lw_cC (S' := (op_cap S v0 v1)) X B kc_C_cap gm_W_98 (c_C_cap l u _ ad S sc K.1  v0 v1 v01 v02 v11 v12) (fun w1 h => ⟨ad, sc, rfl, h⟩) rfl ⟨(Nat.le_of_ble_eq_true rfl), (Nat.le_of_ble_eq_true rfl)⟩ ⟨(by show _ ≤ 600000; omega), (by show _ ≤ 7302250; omega)⟩ rfl hl.1 (Nat.le_of_ble_eq_true rfl) dc_W_law_1039 rfl (fun H locs ad1 sc1 had B => ?_)
  rw [← had] at hl
  clear had
  refine lv_aload_n X.1 X.2.1 dc_W_law_1042 rfl (lv_at hl 2 rfl) ?_
  refine lv_aload_n X.1 X.2.1 dc_W_law_1043 rfl (lv_at hl 0 rfl) ?_
  refine lv_iload_n X.1 X.2.1 dc_W_law_1044 rfl (lv_at hl 3 rfl) ?_
  refine cx_iconst X dc_W_law_1045 ?_
  refine cx_iadd X dc_W_law_1046 ?_
  refine lw_sld X B hX hbl (j := 8 * k + 1) (by omega) (by omega) hL ev1 dc_W_law_1047 ?_
  refine lv_aload_n X.1 X.2.1 dc_W_law_1048 rfl (lv_at hl 0 rfl) ?_
  refine lv_iload_n X.1 X.2.1 dc_W_law_1049 rfl (lv_at hl 3 rfl) ?_
  refine cx_iconst X dc_W_law_1050 ?_
  refine cx_iadd X dc_W_law_1051 ?_
  refine lw_sld X B hX hbl (j := 8 * k + 2) (by omega) (by omega) hL ev2 dc_W_law_1052 ?_
  refine lw_cM (S' := (op_cap S v0 v1)) X B kc_M_cap gm_W_101 (c_M_cap l u _ ad2 S sc2 K.1  v0 v1 v01 v02 v11 v12) (fun w1 h => ⟨sc2, h⟩) rfl ⟨(Nat.le_of_ble_eq_true rfl), (Nat.le_of_ble_eq_true rfl)⟩ ⟨(by show _ ≤ 600000; omega), (by show _ ≤ 7302250; omega)⟩ rfl hl.1 (Nat.le_of_ble_eq_true rfl) dc_W_law_1053 rfl (fun H locs sc3 B => ?_)
  refine lv_icmp_eq (tgt := 1355) X.1 X.2.1 dc_W_law_1056 (by decide) (fun _ => ?_) (fun q => absurd rfl q)
  refine W.widen (k := 35 + 3 * (k + 1)) (n := 2056 + 35 * (k + 1)) (by omega) (by omega) ?_
  exact kk _ _ _ _ _ _ _ _ (K_cap K v0 v1) B hl
set_option maxHeartbeats 4000000 in
set_option maxRecDepth 100000 in
theorem lw_case_19 {p : Program} {l : Launch} {e : Env} {s : State} {m : MethodId} {below : List Frame} {meth : Method} {c : Code} {u : cx_U} {b L : Nat} {xs : Nat → Int32} (X : CallFix p m c bc_W_law 4 s #[Value.ref b] GW "CatchSharesLaw") (hX : va_X b L xs s s.heap) (hbl : b < s.heap.size) (hL : L ≤ 4096) {k : Nat} (hk : 8 * k + 8 ≤ L) (kk : lw_Go p l e s m below meth c u b k (k + 1) 1355) : lw_Go p l e s m below meth c u b k k 1061 := by
  intro ad ad2 S sc sc2 H locs ls K B hl
  have hH := cs_H_of K.1 K.2.1 K.2.2.2.2.2.2.2.2
  obtain ⟨v0, v01, v02, ev1⟩ := jI_R (xs (8 * k + 1))
  refine lv_aload_n X.1 X.2.1 dc_W_law_1061 rfl (lv_at hl 1 rfl) ?_
  refine lv_aload_n X.1 X.2.1 dc_W_law_1062 rfl (lv_at hl 0 rfl) ?_
  refine lv_iload_n X.1 X.2.1 dc_W_law_1063 rfl (lv_at hl 3 rfl) ?_
  refine cx_iconst X dc_W_law_1064 ?_
  refine cx_iadd X dc_W_law_1065 ?_
  refine lw_sld X B hX hbl (j := 8 * k + 1) (by omega) (by omega) hL ev1 dc_W_law_1066 ?_
  refine lw_cC (S' := S) X B kc_C_capped gm_W_102 (c_C_capped l u _ ad S sc K.1 K.2.1 hH v0 v01 v02) (fun w1 h => by obtain ⟨sc1, h1⟩ := h; exact ⟨ad, sc1, rfl, h1⟩) rfl ⟨(Nat.le_of_ble_eq_true rfl), (Nat.le_of_ble_eq_true rfl)⟩ ⟨(by show _ ≤ 600000; omega), (by show _ ≤ 7302250; omega)⟩ rfl hl.1 (Nat.le_of_ble_eq_true rfl) dc_W_law_1067 rfl (fun H locs ad1 sc1 had B => ?_)
  rw [← had] at hl
  clear had
  refine lv_aload_n X.1 X.2.1 dc_W_law_1070 rfl (lv_at hl 2 rfl) ?_
  refine lv_aload_n X.1 X.2.1 dc_W_law_1071 rfl (lv_at hl 0 rfl) ?_
  refine lv_iload_n X.1 X.2.1 dc_W_law_1072 rfl (lv_at hl 3 rfl) ?_
  refine cx_iconst X dc_W_law_1073 ?_
  refine cx_iadd X dc_W_law_1074 ?_
  refine lw_sld X B hX hbl (j := 8 * k + 1) (by omega) (by omega) hL ev1 dc_W_law_1075 ?_
  refine lw_cM (S' := S) X B kc_M_capped gm_W_106 (c_M_capped l u _ ad2 S sc2 K.1 K.2.2.2.2.1 K.2.1 hH v0 v01 v02) (fun w1 h => h) rfl ⟨(Nat.le_of_ble_eq_true rfl), (Nat.le_of_ble_eq_true rfl)⟩ ⟨(by show _ ≤ 600000; omega), (by show _ ≤ 7302250; omega)⟩ rfl hl.1 (Nat.le_of_ble_eq_true rfl) dc_W_law_1076 rfl (fun H locs sc3 B => ?_)
  refine lv_icmp_eq (tgt := 1355) X.1 X.2.1 dc_W_law_1079 (by decide) (fun _ => ?_) (fun q => absurd rfl q)
  refine W.widen (k := 35 + 3 * (k + 1)) (n := 2056 + 35 * (k + 1)) (by omega) (by omega) ?_
  exact kk _ _ _ _ _ _ _ _ K B hl
set_option maxHeartbeats 4000000 in
set_option maxRecDepth 100000 in
theorem lw_case_20 {p : Program} {l : Launch} {e : Env} {s : State} {m : MethodId} {below : List Frame} {meth : Method} {c : Code} {u : cx_U} {b L : Nat} {xs : Nat → Int32} (X : CallFix p m c bc_W_law 4 s #[Value.ref b] GW "CatchSharesLaw") (hX : va_X b L xs s s.heap) (hbl : b < s.heap.size) (hL : L ≤ 4096) {k : Nat} (hk : 8 * k + 8 ≤ L) (kk : lw_Go p l e s m below meth c u b k (k + 1) 1355) : lw_Go p l e s m below meth c u b k k 1084 := by
  intro ad ad2 S sc sc2 H locs ls K B hl
  obtain ⟨v0, v01, v02, ev1⟩ := jI_R (xs (8 * k + 1))
  refine lv_aload_n X.1 X.2.1 dc_W_law_1084 rfl (lv_at hl 1 rfl) ?_
  refine lv_aload_n X.1 X.2.1 dc_W_law_1085 rfl (lv_at hl 0 rfl) ?_
  refine lv_iload_n X.1 X.2.1 dc_W_law_1086 rfl (lv_at hl 3 rfl) ?_
  refine cx_iconst X dc_W_law_1087 ?_
  refine cx_iadd X dc_W_law_1088 ?_
  refine lw_sld X B hX hbl (j := 8 * k + 1) (by omega) (by omega) hL ev1 dc_W_law_1089 ?_
  refine cx_cVN X B kc_C_choke gm_W_107 (c_C_choke l u ad S sc K.1  v0 v01 v02) lw_sC (lw_sC 0 0 _ (wC_0 u ad S sc)) rfl rfl ⟨(Nat.le_of_ble_eq_true rfl), (Nat.le_of_ble_eq_true rfl)⟩ ⟨(by show _ ≤ 600000; omega), (by show _ ≤ 7302250; omega)⟩ rfl hl.1 (Nat.le_of_ble_eq_true rfl) dc_W_law_1090 rfl ?_
  refine lv_aload_n X.1 X.2.1 dc_W_law_1093 rfl (lv_at hl 2 rfl) ?_
  refine lv_aload_n X.1 X.2.1 dc_W_law_1094 rfl (lv_at hl 0 rfl) ?_
  refine lv_iload_n X.1 X.2.1 dc_W_law_1095 rfl (lv_at hl 3 rfl) ?_
  refine cx_iconst X dc_W_law_1096 ?_
  refine cx_iadd X dc_W_law_1097 ?_
  refine lw_sld X B hX hbl (j := 8 * k + 1) (by omega) (by omega) hL ev1 dc_W_law_1098 ?_
  refine cx_cVN X B kc_M_choke gm_W_110 (c_M_choke l u ad2 S sc2 K.1 K.2.2.2.2.2.2.1 v0 v01 v02) lw_sM (lw_sM 20 0 _ (wM_20 u ad2 S sc2)) rfl rfl ⟨(Nat.le_of_ble_eq_true rfl), (Nat.le_of_ble_eq_true rfl)⟩ ⟨(by show _ ≤ 600000; omega), (by show _ ≤ 7302250; omega)⟩ rfl hl.1 (Nat.le_of_ble_eq_true rfl) dc_W_law_1099 rfl ?_
  refine lv_icmp_eq (tgt := 1355) X.1 X.2.1 dc_W_law_1102 (by decide) (fun _ => ?_) (fun q => absurd rfl q)
  refine W.widen (k := 35 + 3 * (k + 1)) (n := 2056 + 35 * (k + 1)) (by omega) (by omega) ?_
  exact kk _ _ _ _ _ _ _ _ K B hl
