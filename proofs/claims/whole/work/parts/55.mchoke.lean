set_option maxHeartbeats 4000000 in
set_option maxRecDepth 100000 in
theorem c_M_down (l : Launch) (u : cx_U) (w : cx_W) (x y : Int) (x1 : -9223372036854775808 ≤ x) (x2 : x ≤ 9223372036854775807) (y1 : 0 < y) (y2 : y ≤ 9223372036854775807) (hb : -9000000000000000000 ≤ x) (hb2 : y ≤ 100000000000) : cx_N l u mn_M_down bc_M_down 6 (some .long) 0 0 [.long (jL (x)), .long (jL (y))] (w) (.long (jL (x / y))) := by
  refine cx_N.of (by decide +kernel) (Nat.le_of_ble_eq_true rfl) ?_
  intro p e s m args below meth c ls A X hr hlk B hl
  have X : CallFix p m c bc_M_down 6 s args GW "CatchSharesModel" := X
  have hl : lv_has ls 6 [(0, .long (jL (x))), (2, .long (jL (y)))] := hl
  have hde := cs_de (x := x) y1
  have hfl := cs_fl (x := x) y1
  have htd := cs_td (x := x) y1
  have hdv := cs_dv (x := x) y1
  refine lv_lload_n X.1 X.2.1 dc_M_down_0 rfl (lv_at hl 0 rfl) ?_
  refine lv_lload_n X.1 X.2.1 dc_M_down_1 rfl (lv_at hl 1 rfl) ?_
  refine lv_ldiv X.1 X.2.1 dc_M_down_2 (jL_ne0 (by omega) (by omega) y2) ?_
  rw [jL_divT x1 x2 y1 y2]
  refine lv_lstore (lv' := [(4, .long (jL (x.tdiv y))), (0, .long (jL (x))), (2, .long (jL (y)))]) X.1 X.2.1 dc_M_down_3 hl (by decide) rfl (fun ls hl => ?_)
  refine lv_lload X.1 X.2.1 dc_M_down_5 (lv_at hl 0 rfl) ?_
  refine lv_lload_n X.1 X.2.1 dc_M_down_7 rfl (lv_at hl 2 rfl) ?_
  refine cx_lmul X dc_M_down_8 ?_
  refine lv_lload_n X.1 X.2.1 dc_M_down_9 rfl (lv_at hl 1 rfl) ?_
  by_cases hc : 0 ≤ x ∨ y ∣ x
  · rw [if_pos hc] at htd
    have hm : x.tdiv y * y = x - x % y := by rw [htd, Int.add_zero, Int.mul_comm]; omega
    refine cx_lcmp_le (tgt := 21) X (by omega) (by omega) (by omega) (by omega) dc_M_down_10 dc_M_down_11 (by decide) (fun c_1 => ?_) (fun c_1 => by exfalso; omega)
    refine lv_lload X.1 X.2.1 dc_M_down_21 (lv_at hl 0 rfl) ?_
    exact cx_lretN X hr hlk (by congr 2; omega) dc_M_down_23
  · rw [if_neg hc] at htd
    have hm : x.tdiv y * y = x - x % y + y := by rw [htd, Int.add_mul, Int.mul_comm]; omega
    refine cx_lcmp_le (tgt := 21) X (by omega) (by omega) (by omega) (by omega) dc_M_down_10 dc_M_down_11 (by decide) (fun c_2 => by exfalso; omega) (fun c_2 => ?_)
    refine lv_lload X.1 X.2.1 dc_M_down_14 (lv_at hl 0 rfl) ?_
    refine cx_lconst (a := 1) X dc_M_down_16 (by decide +kernel) ?_
    refine cx_lsub X dc_M_down_17 ?_
    refine lv_goto (tgt := 23) X.1 X.2.1 dc_M_down_18 (by decide) ?_
    exact cx_lretN X hr hlk (by congr 2; omega) dc_M_down_23
set_option maxHeartbeats 4000000 in
set_option maxRecDepth 100000 in
theorem c_M_isLess (l : Launch) (u : cx_U) (w : cx_W) (a b c_ d_ : Int) (ra : -400000000000 ≤ a) (ra2 : a ≤ 400000000000) (rb : 0 < b) (rb2 : b ≤ 2000000000) (rc : -400000000000 ≤ c_) (rc2 : c_ ≤ 400000000000) (rd : 0 < d_) (rd2 : d_ ≤ 2000000000) : cx_N l u mn_M_isLess bc_M_isLess 25 (some .boolean) 1 25 [.long (jL (a)), .long (jL (b)), .long (jL (c_)), .long (jL (d_))] (w) (.int (jI (jB (a * d_ < c_ * b)))) := by
  refine cx_N.of (by decide +kernel) (Nat.le_of_ble_eq_true rfl) ?_
  intro p e s m args below meth c ls A X hr hlk B hl
  have X : CallFix p m c bc_M_isLess 25 s args GW "CatchSharesModel" := X
  have hl : lv_has ls 25 [(0, .long (jL (a))), (2, .long (jL (b))), (4, .long (jL (c_))), (6, .long (jL (d_)))] := hl
  refine lv_lload_n X.1 X.2.1 dc_M_isLess_0 rfl (lv_at hl 0 rfl) ?_
  refine lv_lstore (lv' := [(8, .long (jL (a))), (0, .long (jL (a))), (2, .long (jL (b))), (4, .long (jL (c_))), (6, .long (jL (d_)))]) X.1 X.2.1 dc_M_isLess_1 hl (by decide) rfl (fun ls hl => ?_)
  refine lv_lload_n X.1 X.2.1 dc_M_isLess_3 rfl (lv_at hl 2 rfl) ?_
  refine lv_lstore (lv' := [(10, .long (jL (b))), (8, .long (jL (a))), (0, .long (jL (a))), (2, .long (jL (b))), (4, .long (jL (c_))), (6, .long (jL (d_)))]) X.1 X.2.1 dc_M_isLess_4 hl (by decide) rfl (fun ls hl => ?_)
  refine lv_lload X.1 X.2.1 dc_M_isLess_6 (lv_at hl 4 rfl) ?_
  refine lv_lstore (lv' := [(12, .long (jL (c_))), (10, .long (jL (b))), (8, .long (jL (a))), (0, .long (jL (a))), (2, .long (jL (b))), (4, .long (jL (c_))), (6, .long (jL (d_)))]) X.1 X.2.1 dc_M_isLess_8 hl (by decide) rfl (fun ls hl => ?_)
  refine lv_lload X.1 X.2.1 dc_M_isLess_10 (lv_at hl 6 rfl) ?_
  refine lv_lstore (lv' := [(14, .long (jL (d_))), (12, .long (jL (c_))), (10, .long (jL (b))), (8, .long (jL (a))), (0, .long (jL (a))), (2, .long (jL (b))), (4, .long (jL (c_))), (6, .long (jL (d_)))]) X.1 X.2.1 dc_M_isLess_12 hl (by decide) rfl (fun ls hl => ?_)
  refine cx_iconst X dc_M_isLess_14 ?_
  refine lv_istore (lv' := [(16, .int (jI (0))), (14, .long (jL (d_))), (12, .long (jL (c_))), (10, .long (jL (b))), (8, .long (jL (a))), (0, .long (jL (a))), (2, .long (jL (b))), (4, .long (jL (c_))), (6, .long (jL (d_)))]) X.1 X.2.1 dc_M_isLess_15 hl (by decide) rfl (fun ls hl => ?_)
  have lp_1 : ∀ (n_2 k : Nat) (ls : Array Slot) (p_ q_ r_ t_ tn : Int) (hp1 : -400000000000 ≤ p_) (hp2 : p_ ≤ 400000000000) (hq1 : 0 < q_) (hq2 : q_ ≤ 2000000001 - (k : Int)) (hr1 : -400000000000 ≤ r_) (hr2 : r_ ≤ 400000000000) (ht1 : 0 < t_) (ht2 : t_ ≤ 2000000000) (htn : tn = 0 ∨ tn = 1) (hinv : (tn = 0 → (a * d_ < c_ * b ↔ p_ * t_ < r_ * q_)) ∧ (tn = 1 → (a * d_ < c_ * b ↔ r_ * q_ < p_ * t_))), (k : Int) ≤ 2000000001 → 2000000001 - (k : Int) < (n_2 : Int) → lv_has ls 25 [(8, .long (jL (p_))), (10, .long (jL (q_))), (12, .long (jL (r_))), (14, .long (jL (t_))), (16, .int (jI (tn)))] → W p l e (cx_R 1 25 0 0) s m args below meth c s.heap [] 0 0 (MQ below (fun _ st_ oc_ t_ => oc_ = .returned (some (.int (jI (jB (a * d_ < c_ * b))))) ∧ t_.heap = st_.heap) args s 0 0 (fun _ => False)) (F0 m 17 ls []) := by
    intro n_2
    induction n_2 with
    | zero => intro k ls p_ q_ r_ t_ tn hp1 hp2 hq1 hq2 hr1 hr2 ht1 ht2 htn hinv hi_4 hn_5; exfalso; omega
    | succ n_2 ih_3 =>
      intro k ls p_ q_ r_ t_ tn hp1 hp2 hq1 hq2 hr1 hr2 ht1 ht2 htn hinv hi_4 hn_5 hl
      have f1 := cs_fl (x := p_) hq1
      have f2 := cs_fl (x := r_) ht1
      have e1 := cs_de (x := p_) hq1
      have e2 := cs_de (x := r_) ht1
      have cr := cs_cross (a := p_) (b := r_) hq1 ht1
      have cr2 := cs_cross (a := r_) (b := p_) ht1 hq1
      have mm : p_ - p_ / q_ * q_ = p_ % q_ := by rw [Int.mul_comm]; omega
      have nn : r_ - r_ / t_ * t_ = r_ % t_ := by rw [Int.mul_comm]; omega
      refine lv_lload X.1 X.2.1 dc_M_isLess_17 (lv_at hl 0 rfl) ?_
      refine lv_lload X.1 X.2.1 dc_M_isLess_19 (lv_at hl 1 rfl) ?_
      refine cx_cSN (r := .long (jL (p_ / q_))) (As := [.long (jL (p_)), .long (jL (q_))]) (rest := []) X B kc_M_down gm_M_157 (c_M_down l u _ p_ q_ (by omega) (by omega) (by omega) (by omega) (by omega) (by omega)) (fun _ _ _ h => h) ⟨(Nat.le_of_ble_eq_true rfl), (Nat.le_of_ble_eq_true rfl)⟩ ⟨(Nat.le_of_ble_eq_true rfl), (Nat.le_of_ble_eq_true rfl)⟩ rfl hl.1 (Nat.le_of_ble_eq_true rfl) dc_M_isLess_21 rfl ?_
      refine lv_lstore (lv' := [(17, .long (jL (p_ / q_))), (8, .long (jL (p_))), (10, .long (jL (q_))), (12, .long (jL (r_))), (14, .long (jL (t_))), (16, .int (jI (tn)))]) X.1 X.2.1 dc_M_isLess_24 hl (by decide) rfl (fun ls hl => ?_)
      refine lv_lload X.1 X.2.1 dc_M_isLess_26 (lv_at hl 3 rfl) ?_
      refine lv_lload X.1 X.2.1 dc_M_isLess_28 (lv_at hl 4 rfl) ?_
      refine cx_cSN (r := .long (jL (r_ / t_))) (As := [.long (jL (r_)), .long (jL (t_))]) (rest := []) X B kc_M_down gm_M_157 (c_M_down l u _ r_ t_ (by omega) (by omega) (by omega) (by omega) (by omega) (by omega)) (fun _ _ _ h => h) ⟨(Nat.le_of_ble_eq_true rfl), (Nat.le_of_ble_eq_true rfl)⟩ ⟨(Nat.le_of_ble_eq_true rfl), (Nat.le_of_ble_eq_true rfl)⟩ rfl hl.1 (Nat.le_of_ble_eq_true rfl) dc_M_isLess_30 rfl ?_
      refine lv_lstore (lv' := [(19, .long (jL (r_ / t_))), (17, .long (jL (p_ / q_))), (8, .long (jL (p_))), (10, .long (jL (q_))), (12, .long (jL (r_))), (14, .long (jL (t_))), (16, .int (jI (tn)))]) X.1 X.2.1 dc_M_isLess_33 hl (by decide) rfl (fun ls hl => ?_)
      refine lv_lload X.1 X.2.1 dc_M_isLess_35 (lv_at hl 1 rfl) ?_
      refine lv_lload X.1 X.2.1 dc_M_isLess_37 (lv_at hl 0 rfl) ?_
      refine cx_lcmp_eq (tgt := 67) X (by omega) (by omega) (by omega) (by omega) dc_M_isLess_39 dc_M_isLess_40 (by decide) (fun c_6 => ?_) (fun c_6 => ?_)
      · refine lv_lload X.1 X.2.1 dc_M_isLess_67 (lv_at hl 2 rfl) ?_
        refine lv_lload X.1 X.2.1 dc_M_isLess_69 (lv_at hl 1 rfl) ?_
        refine lv_lload X.1 X.2.1 dc_M_isLess_71 (lv_at hl 3 rfl) ?_
        refine cx_lmul X dc_M_isLess_73 ?_
        refine cx_lsub X dc_M_isLess_74 ?_
        rw [mm]
        refine lv_lstore (lv' := [(21, .long (jL (p_ % q_))), (19, .long (jL (r_ / t_))), (17, .long (jL (p_ / q_))), (8, .long (jL (p_))), (10, .long (jL (q_))), (12, .long (jL (r_))), (14, .long (jL (t_))), (16, .int (jI (tn)))]) X.1 X.2.1 dc_M_isLess_75 hl (by decide) rfl (fun ls hl => ?_)
        refine lv_lload X.1 X.2.1 dc_M_isLess_77 (lv_at hl 5 rfl) ?_
        refine lv_lload X.1 X.2.1 dc_M_isLess_79 (lv_at hl 1 rfl) ?_
        refine lv_lload X.1 X.2.1 dc_M_isLess_81 (lv_at hl 6 rfl) ?_
        refine cx_lmul X dc_M_isLess_83 ?_
        refine cx_lsub X dc_M_isLess_84 ?_
        rw [nn]
        refine lv_lstore (lv' := [(23, .long (jL (r_ % t_))), (21, .long (jL (p_ % q_))), (19, .long (jL (r_ / t_))), (17, .long (jL (p_ / q_))), (8, .long (jL (p_))), (10, .long (jL (q_))), (12, .long (jL (r_))), (14, .long (jL (t_))), (16, .int (jI (tn)))]) X.1 X.2.1 dc_M_isLess_85 hl (by decide) rfl (fun ls hl => ?_)
        refine lv_lload X.1 X.2.1 dc_M_isLess_87 (lv_at hl 1 rfl) ?_
        refine cx_lconst (a := 0) X dc_M_isLess_89 (by decide +kernel) ?_
        refine cx_lcmp_eq (tgt := 101) X (by omega) (by omega) (by omega) (by omega) dc_M_isLess_90 dc_M_isLess_91 (by decide) (fun c_7 => ?_) (fun c_7 => ?_)
        · refine lv_lload X.1 X.2.1 dc_M_isLess_101 (lv_at hl 1 rfl) ?_
          refine cx_lconst (a := 0) X dc_M_isLess_103 (by decide +kernel) ?_
          refine cx_lcmp_ne (tgt := 119) X (by omega) (by omega) (by omega) (by omega) dc_M_isLess_104 dc_M_isLess_105 (by decide) (fun c_8 => ?_) (fun c_8 => ?_)
          · refine cx_iconst X dc_M_isLess_119 ?_
            refine lv_iload X.1 X.2.1 dc_M_isLess_120 (lv_at hl 8 rfl) ?_
            refine cx_icmp_eq (tgt := 137) X (by omega) (by omega) (by omega) (by omega) dc_M_isLess_122 (by decide) (fun c_9 => ?_) (fun c_9 => ?_)
            · refine cx_iconst X dc_M_isLess_137 ?_
              have hz1 : ∀ z : Int, 0 * z = 0 := Int.zero_mul
              have hp_ : ∀ {u v : Int}, 0 < u → 0 < v → 0 < u * v := fun h1 h2 => Int.mul_pos h1 h2
              have hres : ¬ a * d_ < c_ * b := by
                rcases htn with ht0 | ht0
                · rw [hinv.1 ht0, cr.2 (by omega)]
                  rcases (show p_ % q_ = 0 ∨ 0 < p_ % q_ by omega) with h1 | h1 <;> rcases (show r_ % t_ = 0 ∨ 0 < r_ % t_ by omega) with h2 | h2
                  · rw [h1, h2]; first | omega | (simp only [hz1]; omega)
                  · have := hp_ h2 hq1; rw [h1, hz1]; omega
                  · have := hp_ h1 ht1; rw [h2, hz1]; omega
                  · exfalso; omega
                · rw [hinv.2 ht0, cr2.2 (by omega)]
                  rcases (show p_ % q_ = 0 ∨ 0 < p_ % q_ by omega) with h1 | h1 <;> rcases (show r_ % t_ = 0 ∨ 0 < r_ % t_ by omega) with h2 | h2
                  · rw [h1, h2]; first | omega | (simp only [hz1]; omega)
                  · have := hp_ h2 hq1; rw [h1, hz1]; omega
                  · have := hp_ h1 ht1; rw [h2, hz1]; omega
                  · exfalso; omega
              exact cx_zretN X hr hlk (by omega) (by omega) (by rw [jB_f hres]) dc_M_isLess_138
            · refine lv_lload X.1 X.2.1 dc_M_isLess_125 (lv_at hl 1 rfl) ?_
              refine lv_lload X.1 X.2.1 dc_M_isLess_127 (lv_at hl 0 rfl) ?_
              refine cx_lcmp_eq (tgt := 137) X (by omega) (by omega) (by omega) (by omega) dc_M_isLess_129 dc_M_isLess_130 (by decide) (fun c_10 => ?_) (fun c_10 => ?_)
              · refine cx_iconst X dc_M_isLess_137 ?_
                have hz1 : ∀ z : Int, 0 * z = 0 := Int.zero_mul
                have hp_ : ∀ {u v : Int}, 0 < u → 0 < v → 0 < u * v := fun h1 h2 => Int.mul_pos h1 h2
                have hres : ¬ a * d_ < c_ * b := by
                  rcases htn with ht0 | ht0
                  · rw [hinv.1 ht0, cr.2 (by omega)]
                    rcases (show p_ % q_ = 0 ∨ 0 < p_ % q_ by omega) with h1 | h1 <;> rcases (show r_ % t_ = 0 ∨ 0 < r_ % t_ by omega) with h2 | h2
                    · rw [h1, h2]; first | omega | (simp only [hz1]; omega)
                    · have := hp_ h2 hq1; rw [h1, hz1]; omega
                    · have := hp_ h1 ht1; rw [h2, hz1]; omega
                    · exfalso; omega
                  · rw [hinv.2 ht0, cr2.2 (by omega)]
                    rcases (show p_ % q_ = 0 ∨ 0 < p_ % q_ by omega) with h1 | h1 <;> rcases (show r_ % t_ = 0 ∨ 0 < r_ % t_ by omega) with h2 | h2
                    · rw [h1, h2]; first | omega | (simp only [hz1]; omega)
                    · have := hp_ h2 hq1; rw [h1, hz1]; omega
                    · have := hp_ h1 ht1; rw [h2, hz1]; omega
                    · exfalso; omega
                exact cx_zretN X hr hlk (by omega) (by omega) (by rw [jB_f hres]) dc_M_isLess_138
              · refine cx_iconst X dc_M_isLess_133 ?_
                refine lv_goto (tgt := 138) X.1 X.2.1 dc_M_isLess_134 (by decide) ?_
                have hz1 : ∀ z : Int, 0 * z = 0 := Int.zero_mul
                have hp_ : ∀ {u v : Int}, 0 < u → 0 < v → 0 < u * v := fun h1 h2 => Int.mul_pos h1 h2
                have hres : a * d_ < c_ * b := by
                  rcases htn with ht0 | ht0
                  · rw [hinv.1 ht0, cr.2 (by omega)]
                    rcases (show p_ % q_ = 0 ∨ 0 < p_ % q_ by omega) with h1 | h1 <;> rcases (show r_ % t_ = 0 ∨ 0 < r_ % t_ by omega) with h2 | h2
                    · rw [h1, h2]; first | omega | (simp only [hz1]; omega)
                    · have := hp_ h2 hq1; rw [h1, hz1]; omega
                    · have := hp_ h1 ht1; rw [h2, hz1]; omega
                    · exfalso; omega
                  · rw [hinv.2 ht0, cr2.2 (by omega)]
                    rcases (show p_ % q_ = 0 ∨ 0 < p_ % q_ by omega) with h1 | h1 <;> rcases (show r_ % t_ = 0 ∨ 0 < r_ % t_ by omega) with h2 | h2
                    · rw [h1, h2]; first | omega | (simp only [hz1]; omega)
                    · have := hp_ h2 hq1; rw [h1, hz1]; omega
                    · have := hp_ h1 ht1; rw [h2, hz1]; omega
                    · exfalso; omega
                exact cx_zretN X hr hlk (by omega) (by omega) (by rw [jB_t hres]) dc_M_isLess_138
          · refine lv_lload X.1 X.2.1 dc_M_isLess_108 (lv_at hl 0 rfl) ?_
            refine cx_lconst (a := 0) X dc_M_isLess_110 (by decide +kernel) ?_
            refine cx_lcmp_le (tgt := 119) X (by omega) (by omega) (by omega) (by omega) dc_M_isLess_111 dc_M_isLess_112 (by decide) (fun c_11 => ?_) (fun c_11 => ?_)
            · refine cx_iconst X dc_M_isLess_119 ?_
              refine lv_iload X.1 X.2.1 dc_M_isLess_120 (lv_at hl 8 rfl) ?_
              refine cx_icmp_eq (tgt := 137) X (by omega) (by omega) (by omega) (by omega) dc_M_isLess_122 (by decide) (fun c_12 => ?_) (fun c_12 => ?_)
              · refine cx_iconst X dc_M_isLess_137 ?_
                have hz1 : ∀ z : Int, 0 * z = 0 := Int.zero_mul
                have hp_ : ∀ {u v : Int}, 0 < u → 0 < v → 0 < u * v := fun h1 h2 => Int.mul_pos h1 h2
                have hres : ¬ a * d_ < c_ * b := by
                  rcases htn with ht0 | ht0
                  · rw [hinv.1 ht0, cr.2 (by omega)]
                    rcases (show p_ % q_ = 0 ∨ 0 < p_ % q_ by omega) with h1 | h1 <;> rcases (show r_ % t_ = 0 ∨ 0 < r_ % t_ by omega) with h2 | h2
                    · rw [h1, h2]; first | omega | (simp only [hz1]; omega)
                    · have := hp_ h2 hq1; rw [h1, hz1]; omega
                    · have := hp_ h1 ht1; rw [h2, hz1]; omega
                    · exfalso; omega
                  · rw [hinv.2 ht0, cr2.2 (by omega)]
                    rcases (show p_ % q_ = 0 ∨ 0 < p_ % q_ by omega) with h1 | h1 <;> rcases (show r_ % t_ = 0 ∨ 0 < r_ % t_ by omega) with h2 | h2
                    · rw [h1, h2]; first | omega | (simp only [hz1]; omega)
                    · have := hp_ h2 hq1; rw [h1, hz1]; omega
                    · have := hp_ h1 ht1; rw [h2, hz1]; omega
                    · exfalso; omega
                exact cx_zretN X hr hlk (by omega) (by omega) (by rw [jB_f hres]) dc_M_isLess_138
              · refine lv_lload X.1 X.2.1 dc_M_isLess_125 (lv_at hl 1 rfl) ?_
                refine lv_lload X.1 X.2.1 dc_M_isLess_127 (lv_at hl 0 rfl) ?_
                refine cx_lcmp_eq (tgt := 137) X (by omega) (by omega) (by omega) (by omega) dc_M_isLess_129 dc_M_isLess_130 (by decide) (fun c_13 => ?_) (fun c_13 => ?_)
                · refine cx_iconst X dc_M_isLess_137 ?_
                  have hz1 : ∀ z : Int, 0 * z = 0 := Int.zero_mul
                  have hp_ : ∀ {u v : Int}, 0 < u → 0 < v → 0 < u * v := fun h1 h2 => Int.mul_pos h1 h2
                  have hres : ¬ a * d_ < c_ * b := by
                    rcases htn with ht0 | ht0
                    · rw [hinv.1 ht0, cr.2 (by omega)]
                      rcases (show p_ % q_ = 0 ∨ 0 < p_ % q_ by omega) with h1 | h1 <;> rcases (show r_ % t_ = 0 ∨ 0 < r_ % t_ by omega) with h2 | h2
                      · rw [h1, h2]; first | omega | (simp only [hz1]; omega)
                      · have := hp_ h2 hq1; rw [h1, hz1]; omega
                      · have := hp_ h1 ht1; rw [h2, hz1]; omega
                      · exfalso; omega
                    · rw [hinv.2 ht0, cr2.2 (by omega)]
                      rcases (show p_ % q_ = 0 ∨ 0 < p_ % q_ by omega) with h1 | h1 <;> rcases (show r_ % t_ = 0 ∨ 0 < r_ % t_ by omega) with h2 | h2
                      · rw [h1, h2]; first | omega | (simp only [hz1]; omega)
                      · have := hp_ h2 hq1; rw [h1, hz1]; omega
                      · have := hp_ h1 ht1; rw [h2, hz1]; omega
                      · exfalso; omega
                  exact cx_zretN X hr hlk (by omega) (by omega) (by rw [jB_f hres]) dc_M_isLess_138
                · refine cx_iconst X dc_M_isLess_133 ?_
                  refine lv_goto (tgt := 138) X.1 X.2.1 dc_M_isLess_134 (by decide) ?_
                  have hz1 : ∀ z : Int, 0 * z = 0 := Int.zero_mul
                  have hp_ : ∀ {u v : Int}, 0 < u → 0 < v → 0 < u * v := fun h1 h2 => Int.mul_pos h1 h2
                  have hres : a * d_ < c_ * b := by
                    rcases htn with ht0 | ht0
                    · rw [hinv.1 ht0, cr.2 (by omega)]
                      rcases (show p_ % q_ = 0 ∨ 0 < p_ % q_ by omega) with h1 | h1 <;> rcases (show r_ % t_ = 0 ∨ 0 < r_ % t_ by omega) with h2 | h2
                      · rw [h1, h2]; first | omega | (simp only [hz1]; omega)
                      · have := hp_ h2 hq1; rw [h1, hz1]; omega
                      · have := hp_ h1 ht1; rw [h2, hz1]; omega
                      · exfalso; omega
                    · rw [hinv.2 ht0, cr2.2 (by omega)]
                      rcases (show p_ % q_ = 0 ∨ 0 < p_ % q_ by omega) with h1 | h1 <;> rcases (show r_ % t_ = 0 ∨ 0 < r_ % t_ by omega) with h2 | h2
                      · rw [h1, h2]; first | omega | (simp only [hz1]; omega)
                      · have := hp_ h2 hq1; rw [h1, hz1]; omega
                      · have := hp_ h1 ht1; rw [h2, hz1]; omega
                      · exfalso; omega
                  exact cx_zretN X hr hlk (by omega) (by omega) (by rw [jB_t hres]) dc_M_isLess_138
            · refine cx_iconst X dc_M_isLess_115 ?_
              refine lv_goto (tgt := 120) X.1 X.2.1 dc_M_isLess_116 (by decide) ?_
              refine lv_iload X.1 X.2.1 dc_M_isLess_120 (lv_at hl 8 rfl) ?_
              refine cx_icmp_eq (tgt := 137) X (by omega) (by omega) (by omega) (by omega) dc_M_isLess_122 (by decide) (fun c_14 => ?_) (fun c_14 => ?_)
              · refine cx_iconst X dc_M_isLess_137 ?_
                have hz1 : ∀ z : Int, 0 * z = 0 := Int.zero_mul
                have hp_ : ∀ {u v : Int}, 0 < u → 0 < v → 0 < u * v := fun h1 h2 => Int.mul_pos h1 h2
                have hres : ¬ a * d_ < c_ * b := by
                  rcases htn with ht0 | ht0
                  · rw [hinv.1 ht0, cr.2 (by omega)]
                    rcases (show p_ % q_ = 0 ∨ 0 < p_ % q_ by omega) with h1 | h1 <;> rcases (show r_ % t_ = 0 ∨ 0 < r_ % t_ by omega) with h2 | h2
                    · rw [h1, h2]; first | omega | (simp only [hz1]; omega)
                    · have := hp_ h2 hq1; rw [h1, hz1]; omega
                    · have := hp_ h1 ht1; rw [h2, hz1]; omega
                    · exfalso; omega
                  · rw [hinv.2 ht0, cr2.2 (by omega)]
                    rcases (show p_ % q_ = 0 ∨ 0 < p_ % q_ by omega) with h1 | h1 <;> rcases (show r_ % t_ = 0 ∨ 0 < r_ % t_ by omega) with h2 | h2
                    · rw [h1, h2]; first | omega | (simp only [hz1]; omega)
                    · have := hp_ h2 hq1; rw [h1, hz1]; omega
                    · have := hp_ h1 ht1; rw [h2, hz1]; omega
                    · exfalso; omega
                exact cx_zretN X hr hlk (by omega) (by omega) (by rw [jB_f hres]) dc_M_isLess_138
              · refine lv_lload X.1 X.2.1 dc_M_isLess_125 (lv_at hl 1 rfl) ?_
                refine lv_lload X.1 X.2.1 dc_M_isLess_127 (lv_at hl 0 rfl) ?_
                refine cx_lcmp_eq (tgt := 137) X (by omega) (by omega) (by omega) (by omega) dc_M_isLess_129 dc_M_isLess_130 (by decide) (fun c_15 => ?_) (fun c_15 => ?_)
                · refine cx_iconst X dc_M_isLess_137 ?_
                  have hz1 : ∀ z : Int, 0 * z = 0 := Int.zero_mul
                  have hp_ : ∀ {u v : Int}, 0 < u → 0 < v → 0 < u * v := fun h1 h2 => Int.mul_pos h1 h2
                  have hres : ¬ a * d_ < c_ * b := by
                    rcases htn with ht0 | ht0
                    · rw [hinv.1 ht0, cr.2 (by omega)]
                      rcases (show p_ % q_ = 0 ∨ 0 < p_ % q_ by omega) with h1 | h1 <;> rcases (show r_ % t_ = 0 ∨ 0 < r_ % t_ by omega) with h2 | h2
                      · rw [h1, h2]; first | omega | (simp only [hz1]; omega)
                      · have := hp_ h2 hq1; rw [h1, hz1]; omega
                      · have := hp_ h1 ht1; rw [h2, hz1]; omega
                      · exfalso; omega
                    · rw [hinv.2 ht0, cr2.2 (by omega)]
                      rcases (show p_ % q_ = 0 ∨ 0 < p_ % q_ by omega) with h1 | h1 <;> rcases (show r_ % t_ = 0 ∨ 0 < r_ % t_ by omega) with h2 | h2
                      · rw [h1, h2]; first | omega | (simp only [hz1]; omega)
                      · have := hp_ h2 hq1; rw [h1, hz1]; omega
                      · have := hp_ h1 ht1; rw [h2, hz1]; omega
                      · exfalso; omega
                  exact cx_zretN X hr hlk (by omega) (by omega) (by rw [jB_f hres]) dc_M_isLess_138
                · refine cx_iconst X dc_M_isLess_133 ?_
                  refine lv_goto (tgt := 138) X.1 X.2.1 dc_M_isLess_134 (by decide) ?_
                  have hz1 : ∀ z : Int, 0 * z = 0 := Int.zero_mul
                  have hp_ : ∀ {u v : Int}, 0 < u → 0 < v → 0 < u * v := fun h1 h2 => Int.mul_pos h1 h2
                  have hres : a * d_ < c_ * b := by
                    rcases htn with ht0 | ht0
                    · rw [hinv.1 ht0, cr.2 (by omega)]
                      rcases (show p_ % q_ = 0 ∨ 0 < p_ % q_ by omega) with h1 | h1 <;> rcases (show r_ % t_ = 0 ∨ 0 < r_ % t_ by omega) with h2 | h2
                      · rw [h1, h2]; first | omega | (simp only [hz1]; omega)
                      · have := hp_ h2 hq1; rw [h1, hz1]; omega
                      · have := hp_ h1 ht1; rw [h2, hz1]; omega
                      · exfalso; omega
                    · rw [hinv.2 ht0, cr2.2 (by omega)]
                      rcases (show p_ % q_ = 0 ∨ 0 < p_ % q_ by omega) with h1 | h1 <;> rcases (show r_ % t_ = 0 ∨ 0 < r_ % t_ by omega) with h2 | h2
                      · rw [h1, h2]; first | omega | (simp only [hz1]; omega)
                      · have := hp_ h2 hq1; rw [h1, hz1]; omega
                      · have := hp_ h1 ht1; rw [h2, hz1]; omega
                      · exfalso; omega
                  exact cx_zretN X hr hlk (by omega) (by omega) (by rw [jB_t hres]) dc_M_isLess_138
        · refine lv_lload X.1 X.2.1 dc_M_isLess_94 (lv_at hl 0 rfl) ?_
          refine cx_lconst (a := 0) X dc_M_isLess_96 (by decide +kernel) ?_
          refine cx_lcmp_ne (tgt := 139) X (by omega) (by omega) (by omega) (by omega) dc_M_isLess_97 dc_M_isLess_98 (by decide) (fun c_16 => ?_) (fun c_16 => ?_)
          · refine lv_lload X.1 X.2.1 dc_M_isLess_139 (lv_at hl 5 rfl) ?_
            refine lv_lstore (lv' := [(8, .long (jL (q_))), (23, .long (jL (r_ % t_))), (21, .long (jL (p_ % q_))), (19, .long (jL (r_ / t_))), (17, .long (jL (p_ / q_))), (10, .long (jL (q_))), (12, .long (jL (r_))), (14, .long (jL (t_))), (16, .int (jI (tn)))]) X.1 X.2.1 dc_M_isLess_141 hl (by decide) rfl (fun ls hl => ?_)
            refine lv_lload X.1 X.2.1 dc_M_isLess_143 (lv_at hl 2 rfl) ?_
            refine lv_lstore (lv' := [(10, .long (jL (p_ % q_))), (8, .long (jL (q_))), (23, .long (jL (r_ % t_))), (21, .long (jL (p_ % q_))), (19, .long (jL (r_ / t_))), (17, .long (jL (p_ / q_))), (12, .long (jL (r_))), (14, .long (jL (t_))), (16, .int (jI (tn)))]) X.1 X.2.1 dc_M_isLess_145 hl (by decide) rfl (fun ls hl => ?_)
            refine lv_lload X.1 X.2.1 dc_M_isLess_147 (lv_at hl 7 rfl) ?_
            refine lv_lstore (lv' := [(12, .long (jL (t_))), (10, .long (jL (p_ % q_))), (8, .long (jL (q_))), (23, .long (jL (r_ % t_))), (21, .long (jL (p_ % q_))), (19, .long (jL (r_ / t_))), (17, .long (jL (p_ / q_))), (14, .long (jL (t_))), (16, .int (jI (tn)))]) X.1 X.2.1 dc_M_isLess_149 hl (by decide) rfl (fun ls hl => ?_)
            refine lv_lload X.1 X.2.1 dc_M_isLess_151 (lv_at hl 3 rfl) ?_
            refine lv_lstore (lv' := [(14, .long (jL (r_ % t_))), (12, .long (jL (t_))), (10, .long (jL (p_ % q_))), (8, .long (jL (q_))), (23, .long (jL (r_ % t_))), (21, .long (jL (p_ % q_))), (19, .long (jL (r_ / t_))), (17, .long (jL (p_ / q_))), (16, .int (jI (tn)))]) X.1 X.2.1 dc_M_isLess_153 hl (by decide) rfl (fun ls hl => ?_)
            refine lv_iload X.1 X.2.1 dc_M_isLess_155 (lv_at hl 8 rfl) ?_
            refine cx_if_ne (tgt := 164) X (by omega) (by omega) dc_M_isLess_157 (by decide) (fun c_17 => ?_) (fun c_17 => ?_)
            · refine cx_iconst X dc_M_isLess_164 ?_
              refine lv_istore (lv' := [(16, .int (jI (0))), (14, .long (jL (r_ % t_))), (12, .long (jL (t_))), (10, .long (jL (p_ % q_))), (8, .long (jL (q_))), (23, .long (jL (r_ % t_))), (21, .long (jL (p_ % q_))), (19, .long (jL (r_ / t_))), (17, .long (jL (p_ / q_)))]) X.1 X.2.1 dc_M_isLess_165 hl (by decide) rfl (fun ls hl => ?_)
              refine lv_goto (tgt := 17) X.1 X.2.1 dc_M_isLess_167 (by decide) ?_
              have i0 : (0 : Int) = 0 → (a * d_ < c_ * b ↔ q_ * (r_ % t_) < t_ * (p_ % q_)) := fun q => by
                rw [hinv.2 (by omega), cr2.2 (by omega), Int.mul_comm (r_ % t_) q_, Int.mul_comm (p_ % q_) t_]
              have i1 : (0 : Int) = 1 → (a * d_ < c_ * b ↔ t_ * (p_ % q_) < q_ * (r_ % t_)) := fun q => by
                rw [hinv.1 (by omega), cr.2 (by omega), Int.mul_comm (r_ % t_) q_, Int.mul_comm (p_ % q_) t_]
              exact ih_3 (k + 1) ls q_ (p_ % q_) t_ (r_ % t_) 0 (by omega) (by omega) (by omega) (by omega) (by omega) (by omega) (by omega) (by omega) (by omega) ⟨i0, i1⟩ (by omega) (by omega) (by  exact lv_sub hl [4, 3, 2, 1, 0] rfl)
            · refine cx_iconst X dc_M_isLess_160 ?_
              refine lv_goto (tgt := 165) X.1 X.2.1 dc_M_isLess_161 (by decide) ?_
              refine lv_istore (lv' := [(16, .int (jI (1))), (14, .long (jL (r_ % t_))), (12, .long (jL (t_))), (10, .long (jL (p_ % q_))), (8, .long (jL (q_))), (23, .long (jL (r_ % t_))), (21, .long (jL (p_ % q_))), (19, .long (jL (r_ / t_))), (17, .long (jL (p_ / q_)))]) X.1 X.2.1 dc_M_isLess_165 hl (by decide) rfl (fun ls hl => ?_)
              refine lv_goto (tgt := 17) X.1 X.2.1 dc_M_isLess_167 (by decide) ?_
              have i0 : (1 : Int) = 0 → (a * d_ < c_ * b ↔ q_ * (r_ % t_) < t_ * (p_ % q_)) := fun q => by
                rw [hinv.2 (by omega), cr2.2 (by omega), Int.mul_comm (r_ % t_) q_, Int.mul_comm (p_ % q_) t_]
              have i1 : (1 : Int) = 1 → (a * d_ < c_ * b ↔ t_ * (p_ % q_) < q_ * (r_ % t_)) := fun q => by
                rw [hinv.1 (by omega), cr.2 (by omega), Int.mul_comm (r_ % t_) q_, Int.mul_comm (p_ % q_) t_]
              exact ih_3 (k + 1) ls q_ (p_ % q_) t_ (r_ % t_) 1 (by omega) (by omega) (by omega) (by omega) (by omega) (by omega) (by omega) (by omega) (by omega) ⟨i0, i1⟩ (by omega) (by omega) (by  exact lv_sub hl [4, 3, 2, 1, 0] rfl)
          · refine lv_lload X.1 X.2.1 dc_M_isLess_101 (lv_at hl 1 rfl) ?_
            refine cx_lconst (a := 0) X dc_M_isLess_103 (by decide +kernel) ?_
            refine cx_lcmp_ne (tgt := 119) X (by omega) (by omega) (by omega) (by omega) dc_M_isLess_104 dc_M_isLess_105 (by decide) (fun c_18 => ?_) (fun c_18 => ?_)
            · refine cx_iconst X dc_M_isLess_119 ?_
              refine lv_iload X.1 X.2.1 dc_M_isLess_120 (lv_at hl 8 rfl) ?_
              refine cx_icmp_eq (tgt := 137) X (by omega) (by omega) (by omega) (by omega) dc_M_isLess_122 (by decide) (fun c_19 => ?_) (fun c_19 => ?_)
              · refine cx_iconst X dc_M_isLess_137 ?_
                have hz1 : ∀ z : Int, 0 * z = 0 := Int.zero_mul
                have hp_ : ∀ {u v : Int}, 0 < u → 0 < v → 0 < u * v := fun h1 h2 => Int.mul_pos h1 h2
                have hres : ¬ a * d_ < c_ * b := by
                  rcases htn with ht0 | ht0
                  · rw [hinv.1 ht0, cr.2 (by omega)]
                    rcases (show p_ % q_ = 0 ∨ 0 < p_ % q_ by omega) with h1 | h1 <;> rcases (show r_ % t_ = 0 ∨ 0 < r_ % t_ by omega) with h2 | h2
                    · rw [h1, h2]; first | omega | (simp only [hz1]; omega)
                    · have := hp_ h2 hq1; rw [h1, hz1]; omega
                    · have := hp_ h1 ht1; rw [h2, hz1]; omega
                    · exfalso; omega
                  · rw [hinv.2 ht0, cr2.2 (by omega)]
                    rcases (show p_ % q_ = 0 ∨ 0 < p_ % q_ by omega) with h1 | h1 <;> rcases (show r_ % t_ = 0 ∨ 0 < r_ % t_ by omega) with h2 | h2
                    · rw [h1, h2]; first | omega | (simp only [hz1]; omega)
                    · have := hp_ h2 hq1; rw [h1, hz1]; omega
                    · have := hp_ h1 ht1; rw [h2, hz1]; omega
                    · exfalso; omega
                exact cx_zretN X hr hlk (by omega) (by omega) (by rw [jB_f hres]) dc_M_isLess_138
              · refine lv_lload X.1 X.2.1 dc_M_isLess_125 (lv_at hl 1 rfl) ?_
                refine lv_lload X.1 X.2.1 dc_M_isLess_127 (lv_at hl 0 rfl) ?_
                refine cx_lcmp_eq (tgt := 137) X (by omega) (by omega) (by omega) (by omega) dc_M_isLess_129 dc_M_isLess_130 (by decide) (fun c_20 => ?_) (fun c_20 => ?_)
                · refine cx_iconst X dc_M_isLess_137 ?_
                  have hz1 : ∀ z : Int, 0 * z = 0 := Int.zero_mul
                  have hp_ : ∀ {u v : Int}, 0 < u → 0 < v → 0 < u * v := fun h1 h2 => Int.mul_pos h1 h2
                  have hres : ¬ a * d_ < c_ * b := by
                    rcases htn with ht0 | ht0
                    · rw [hinv.1 ht0, cr.2 (by omega)]
                      rcases (show p_ % q_ = 0 ∨ 0 < p_ % q_ by omega) with h1 | h1 <;> rcases (show r_ % t_ = 0 ∨ 0 < r_ % t_ by omega) with h2 | h2
                      · rw [h1, h2]; first | omega | (simp only [hz1]; omega)
                      · have := hp_ h2 hq1; rw [h1, hz1]; omega
                      · have := hp_ h1 ht1; rw [h2, hz1]; omega
                      · exfalso; omega
                    · rw [hinv.2 ht0, cr2.2 (by omega)]
                      rcases (show p_ % q_ = 0 ∨ 0 < p_ % q_ by omega) with h1 | h1 <;> rcases (show r_ % t_ = 0 ∨ 0 < r_ % t_ by omega) with h2 | h2
                      · rw [h1, h2]; first | omega | (simp only [hz1]; omega)
                      · have := hp_ h2 hq1; rw [h1, hz1]; omega
                      · have := hp_ h1 ht1; rw [h2, hz1]; omega
                      · exfalso; omega
                  exact cx_zretN X hr hlk (by omega) (by omega) (by rw [jB_f hres]) dc_M_isLess_138
                · refine cx_iconst X dc_M_isLess_133 ?_
                  refine lv_goto (tgt := 138) X.1 X.2.1 dc_M_isLess_134 (by decide) ?_
                  have hz1 : ∀ z : Int, 0 * z = 0 := Int.zero_mul
                  have hp_ : ∀ {u v : Int}, 0 < u → 0 < v → 0 < u * v := fun h1 h2 => Int.mul_pos h1 h2
                  have hres : a * d_ < c_ * b := by
                    rcases htn with ht0 | ht0
                    · rw [hinv.1 ht0, cr.2 (by omega)]
                      rcases (show p_ % q_ = 0 ∨ 0 < p_ % q_ by omega) with h1 | h1 <;> rcases (show r_ % t_ = 0 ∨ 0 < r_ % t_ by omega) with h2 | h2
                      · rw [h1, h2]; first | omega | (simp only [hz1]; omega)
                      · have := hp_ h2 hq1; rw [h1, hz1]; omega
                      · have := hp_ h1 ht1; rw [h2, hz1]; omega
                      · exfalso; omega
                    · rw [hinv.2 ht0, cr2.2 (by omega)]
                      rcases (show p_ % q_ = 0 ∨ 0 < p_ % q_ by omega) with h1 | h1 <;> rcases (show r_ % t_ = 0 ∨ 0 < r_ % t_ by omega) with h2 | h2
                      · rw [h1, h2]; first | omega | (simp only [hz1]; omega)
                      · have := hp_ h2 hq1; rw [h1, hz1]; omega
                      · have := hp_ h1 ht1; rw [h2, hz1]; omega
                      · exfalso; omega
                  exact cx_zretN X hr hlk (by omega) (by omega) (by rw [jB_t hres]) dc_M_isLess_138
            · refine lv_lload X.1 X.2.1 dc_M_isLess_108 (lv_at hl 0 rfl) ?_
              refine cx_lconst (a := 0) X dc_M_isLess_110 (by decide +kernel) ?_
              refine cx_lcmp_le (tgt := 119) X (by omega) (by omega) (by omega) (by omega) dc_M_isLess_111 dc_M_isLess_112 (by decide) (fun c_21 => ?_) (fun c_21 => ?_)
              · refine cx_iconst X dc_M_isLess_119 ?_
                refine lv_iload X.1 X.2.1 dc_M_isLess_120 (lv_at hl 8 rfl) ?_
                refine cx_icmp_eq (tgt := 137) X (by omega) (by omega) (by omega) (by omega) dc_M_isLess_122 (by decide) (fun c_22 => ?_) (fun c_22 => ?_)
                · refine cx_iconst X dc_M_isLess_137 ?_
                  have hz1 : ∀ z : Int, 0 * z = 0 := Int.zero_mul
                  have hp_ : ∀ {u v : Int}, 0 < u → 0 < v → 0 < u * v := fun h1 h2 => Int.mul_pos h1 h2
                  have hres : ¬ a * d_ < c_ * b := by
                    rcases htn with ht0 | ht0
                    · rw [hinv.1 ht0, cr.2 (by omega)]
                      rcases (show p_ % q_ = 0 ∨ 0 < p_ % q_ by omega) with h1 | h1 <;> rcases (show r_ % t_ = 0 ∨ 0 < r_ % t_ by omega) with h2 | h2
                      · rw [h1, h2]; first | omega | (simp only [hz1]; omega)
                      · have := hp_ h2 hq1; rw [h1, hz1]; omega
                      · have := hp_ h1 ht1; rw [h2, hz1]; omega
                      · exfalso; omega
                    · rw [hinv.2 ht0, cr2.2 (by omega)]
                      rcases (show p_ % q_ = 0 ∨ 0 < p_ % q_ by omega) with h1 | h1 <;> rcases (show r_ % t_ = 0 ∨ 0 < r_ % t_ by omega) with h2 | h2
                      · rw [h1, h2]; first | omega | (simp only [hz1]; omega)
                      · have := hp_ h2 hq1; rw [h1, hz1]; omega
                      · have := hp_ h1 ht1; rw [h2, hz1]; omega
                      · exfalso; omega
                  exact cx_zretN X hr hlk (by omega) (by omega) (by rw [jB_f hres]) dc_M_isLess_138
                · refine lv_lload X.1 X.2.1 dc_M_isLess_125 (lv_at hl 1 rfl) ?_
                  refine lv_lload X.1 X.2.1 dc_M_isLess_127 (lv_at hl 0 rfl) ?_
                  refine cx_lcmp_eq (tgt := 137) X (by omega) (by omega) (by omega) (by omega) dc_M_isLess_129 dc_M_isLess_130 (by decide) (fun c_23 => ?_) (fun c_23 => ?_)
                  · refine cx_iconst X dc_M_isLess_137 ?_
                    have hz1 : ∀ z : Int, 0 * z = 0 := Int.zero_mul
                    have hp_ : ∀ {u v : Int}, 0 < u → 0 < v → 0 < u * v := fun h1 h2 => Int.mul_pos h1 h2
                    have hres : ¬ a * d_ < c_ * b := by
                      rcases htn with ht0 | ht0
                      · rw [hinv.1 ht0, cr.2 (by omega)]
                        rcases (show p_ % q_ = 0 ∨ 0 < p_ % q_ by omega) with h1 | h1 <;> rcases (show r_ % t_ = 0 ∨ 0 < r_ % t_ by omega) with h2 | h2
                        · rw [h1, h2]; first | omega | (simp only [hz1]; omega)
                        · have := hp_ h2 hq1; rw [h1, hz1]; omega
                        · have := hp_ h1 ht1; rw [h2, hz1]; omega
                        · exfalso; omega
                      · rw [hinv.2 ht0, cr2.2 (by omega)]
                        rcases (show p_ % q_ = 0 ∨ 0 < p_ % q_ by omega) with h1 | h1 <;> rcases (show r_ % t_ = 0 ∨ 0 < r_ % t_ by omega) with h2 | h2
                        · rw [h1, h2]; first | omega | (simp only [hz1]; omega)
                        · have := hp_ h2 hq1; rw [h1, hz1]; omega
                        · have := hp_ h1 ht1; rw [h2, hz1]; omega
                        · exfalso; omega
                    exact cx_zretN X hr hlk (by omega) (by omega) (by rw [jB_f hres]) dc_M_isLess_138
                  · refine cx_iconst X dc_M_isLess_133 ?_
                    refine lv_goto (tgt := 138) X.1 X.2.1 dc_M_isLess_134 (by decide) ?_
                    have hz1 : ∀ z : Int, 0 * z = 0 := Int.zero_mul
                    have hp_ : ∀ {u v : Int}, 0 < u → 0 < v → 0 < u * v := fun h1 h2 => Int.mul_pos h1 h2
                    have hres : a * d_ < c_ * b := by
                      rcases htn with ht0 | ht0
                      · rw [hinv.1 ht0, cr.2 (by omega)]
                        rcases (show p_ % q_ = 0 ∨ 0 < p_ % q_ by omega) with h1 | h1 <;> rcases (show r_ % t_ = 0 ∨ 0 < r_ % t_ by omega) with h2 | h2
                        · rw [h1, h2]; first | omega | (simp only [hz1]; omega)
                        · have := hp_ h2 hq1; rw [h1, hz1]; omega
                        · have := hp_ h1 ht1; rw [h2, hz1]; omega
                        · exfalso; omega
                      · rw [hinv.2 ht0, cr2.2 (by omega)]
                        rcases (show p_ % q_ = 0 ∨ 0 < p_ % q_ by omega) with h1 | h1 <;> rcases (show r_ % t_ = 0 ∨ 0 < r_ % t_ by omega) with h2 | h2
                        · rw [h1, h2]; first | omega | (simp only [hz1]; omega)
                        · have := hp_ h2 hq1; rw [h1, hz1]; omega
                        · have := hp_ h1 ht1; rw [h2, hz1]; omega
                        · exfalso; omega
                    exact cx_zretN X hr hlk (by omega) (by omega) (by rw [jB_t hres]) dc_M_isLess_138
              · refine cx_iconst X dc_M_isLess_115 ?_
                refine lv_goto (tgt := 120) X.1 X.2.1 dc_M_isLess_116 (by decide) ?_
                refine lv_iload X.1 X.2.1 dc_M_isLess_120 (lv_at hl 8 rfl) ?_
                refine cx_icmp_eq (tgt := 137) X (by omega) (by omega) (by omega) (by omega) dc_M_isLess_122 (by decide) (fun c_24 => ?_) (fun c_24 => ?_)
                · refine cx_iconst X dc_M_isLess_137 ?_
                  have hz1 : ∀ z : Int, 0 * z = 0 := Int.zero_mul
                  have hp_ : ∀ {u v : Int}, 0 < u → 0 < v → 0 < u * v := fun h1 h2 => Int.mul_pos h1 h2
                  have hres : ¬ a * d_ < c_ * b := by
                    rcases htn with ht0 | ht0
                    · rw [hinv.1 ht0, cr.2 (by omega)]
                      rcases (show p_ % q_ = 0 ∨ 0 < p_ % q_ by omega) with h1 | h1 <;> rcases (show r_ % t_ = 0 ∨ 0 < r_ % t_ by omega) with h2 | h2
                      · rw [h1, h2]; first | omega | (simp only [hz1]; omega)
                      · have := hp_ h2 hq1; rw [h1, hz1]; omega
                      · have := hp_ h1 ht1; rw [h2, hz1]; omega
                      · exfalso; omega
                    · rw [hinv.2 ht0, cr2.2 (by omega)]
                      rcases (show p_ % q_ = 0 ∨ 0 < p_ % q_ by omega) with h1 | h1 <;> rcases (show r_ % t_ = 0 ∨ 0 < r_ % t_ by omega) with h2 | h2
                      · rw [h1, h2]; first | omega | (simp only [hz1]; omega)
                      · have := hp_ h2 hq1; rw [h1, hz1]; omega
                      · have := hp_ h1 ht1; rw [h2, hz1]; omega
                      · exfalso; omega
                  exact cx_zretN X hr hlk (by omega) (by omega) (by rw [jB_f hres]) dc_M_isLess_138
                · refine lv_lload X.1 X.2.1 dc_M_isLess_125 (lv_at hl 1 rfl) ?_
                  refine lv_lload X.1 X.2.1 dc_M_isLess_127 (lv_at hl 0 rfl) ?_
                  refine cx_lcmp_eq (tgt := 137) X (by omega) (by omega) (by omega) (by omega) dc_M_isLess_129 dc_M_isLess_130 (by decide) (fun c_25 => ?_) (fun c_25 => ?_)
                  · refine cx_iconst X dc_M_isLess_137 ?_
                    have hz1 : ∀ z : Int, 0 * z = 0 := Int.zero_mul
                    have hp_ : ∀ {u v : Int}, 0 < u → 0 < v → 0 < u * v := fun h1 h2 => Int.mul_pos h1 h2
                    have hres : ¬ a * d_ < c_ * b := by
                      rcases htn with ht0 | ht0
                      · rw [hinv.1 ht0, cr.2 (by omega)]
                        rcases (show p_ % q_ = 0 ∨ 0 < p_ % q_ by omega) with h1 | h1 <;> rcases (show r_ % t_ = 0 ∨ 0 < r_ % t_ by omega) with h2 | h2
                        · rw [h1, h2]; first | omega | (simp only [hz1]; omega)
                        · have := hp_ h2 hq1; rw [h1, hz1]; omega
                        · have := hp_ h1 ht1; rw [h2, hz1]; omega
                        · exfalso; omega
                      · rw [hinv.2 ht0, cr2.2 (by omega)]
                        rcases (show p_ % q_ = 0 ∨ 0 < p_ % q_ by omega) with h1 | h1 <;> rcases (show r_ % t_ = 0 ∨ 0 < r_ % t_ by omega) with h2 | h2
                        · rw [h1, h2]; first | omega | (simp only [hz1]; omega)
                        · have := hp_ h2 hq1; rw [h1, hz1]; omega
                        · have := hp_ h1 ht1; rw [h2, hz1]; omega
                        · exfalso; omega
                    exact cx_zretN X hr hlk (by omega) (by omega) (by rw [jB_f hres]) dc_M_isLess_138
                  · refine cx_iconst X dc_M_isLess_133 ?_
                    refine lv_goto (tgt := 138) X.1 X.2.1 dc_M_isLess_134 (by decide) ?_
                    have hz1 : ∀ z : Int, 0 * z = 0 := Int.zero_mul
                    have hp_ : ∀ {u v : Int}, 0 < u → 0 < v → 0 < u * v := fun h1 h2 => Int.mul_pos h1 h2
                    have hres : a * d_ < c_ * b := by
                      rcases htn with ht0 | ht0
                      · rw [hinv.1 ht0, cr.2 (by omega)]
                        rcases (show p_ % q_ = 0 ∨ 0 < p_ % q_ by omega) with h1 | h1 <;> rcases (show r_ % t_ = 0 ∨ 0 < r_ % t_ by omega) with h2 | h2
                        · rw [h1, h2]; first | omega | (simp only [hz1]; omega)
                        · have := hp_ h2 hq1; rw [h1, hz1]; omega
                        · have := hp_ h1 ht1; rw [h2, hz1]; omega
                        · exfalso; omega
                      · rw [hinv.2 ht0, cr2.2 (by omega)]
                        rcases (show p_ % q_ = 0 ∨ 0 < p_ % q_ by omega) with h1 | h1 <;> rcases (show r_ % t_ = 0 ∨ 0 < r_ % t_ by omega) with h2 | h2
                        · rw [h1, h2]; first | omega | (simp only [hz1]; omega)
                        · have := hp_ h2 hq1; rw [h1, hz1]; omega
                        · have := hp_ h1 ht1; rw [h2, hz1]; omega
                        · exfalso; omega
                    exact cx_zretN X hr hlk (by omega) (by omega) (by rw [jB_t hres]) dc_M_isLess_138
      · refine lv_lload X.1 X.2.1 dc_M_isLess_43 (lv_at hl 1 rfl) ?_
        refine lv_lload X.1 X.2.1 dc_M_isLess_45 (lv_at hl 0 rfl) ?_
        refine cx_lcmp_ge (tgt := 55) X (by omega) (by omega) (by omega) (by omega) dc_M_isLess_47 dc_M_isLess_48 (by decide) (fun c_26 => ?_) (fun c_26 => ?_)
        · refine cx_iconst X dc_M_isLess_55 ?_
          refine lv_iload X.1 X.2.1 dc_M_isLess_56 (lv_at hl 6 rfl) ?_
          refine cx_icmp_eq (tgt := 65) X (by omega) (by omega) (by omega) (by omega) dc_M_isLess_58 (by decide) (fun c_27 => ?_) (fun c_27 => ?_)
          · refine cx_iconst X dc_M_isLess_65 ?_
            have hz1 : ∀ z : Int, 0 * z = 0 := Int.zero_mul
            have hp_ : ∀ {u v : Int}, 0 < u → 0 < v → 0 < u * v := fun h1 h2 => Int.mul_pos h1 h2
            have hres : ¬ a * d_ < c_ * b := by
              rcases htn with ht0 | ht0
              · rw [hinv.1 ht0, cr.1 (by omega)]; omega
              · rw [hinv.2 ht0, cr2.1 (by omega)]; omega
            exact cx_zretN X hr hlk (by omega) (by omega) (by rw [jB_f hres]) dc_M_isLess_66
          · refine cx_iconst X dc_M_isLess_61 ?_
            refine lv_goto (tgt := 66) X.1 X.2.1 dc_M_isLess_62 (by decide) ?_
            have hz1 : ∀ z : Int, 0 * z = 0 := Int.zero_mul
            have hp_ : ∀ {u v : Int}, 0 < u → 0 < v → 0 < u * v := fun h1 h2 => Int.mul_pos h1 h2
            have hres : a * d_ < c_ * b := by
              rcases htn with ht0 | ht0
              · rw [hinv.1 ht0, cr.1 (by omega)]; omega
              · rw [hinv.2 ht0, cr2.1 (by omega)]; omega
            exact cx_zretN X hr hlk (by omega) (by omega) (by rw [jB_t hres]) dc_M_isLess_66
        · refine cx_iconst X dc_M_isLess_51 ?_
          refine lv_goto (tgt := 56) X.1 X.2.1 dc_M_isLess_52 (by decide) ?_
          refine lv_iload X.1 X.2.1 dc_M_isLess_56 (lv_at hl 6 rfl) ?_
          refine cx_icmp_eq (tgt := 65) X (by omega) (by omega) (by omega) (by omega) dc_M_isLess_58 (by decide) (fun c_28 => ?_) (fun c_28 => ?_)
          · refine cx_iconst X dc_M_isLess_65 ?_
            have hz1 : ∀ z : Int, 0 * z = 0 := Int.zero_mul
            have hp_ : ∀ {u v : Int}, 0 < u → 0 < v → 0 < u * v := fun h1 h2 => Int.mul_pos h1 h2
            have hres : ¬ a * d_ < c_ * b := by
              rcases htn with ht0 | ht0
              · rw [hinv.1 ht0, cr.1 (by omega)]; omega
              · rw [hinv.2 ht0, cr2.1 (by omega)]; omega
            exact cx_zretN X hr hlk (by omega) (by omega) (by rw [jB_f hres]) dc_M_isLess_66
          · refine cx_iconst X dc_M_isLess_61 ?_
            refine lv_goto (tgt := 66) X.1 X.2.1 dc_M_isLess_62 (by decide) ?_
            have hz1 : ∀ z : Int, 0 * z = 0 := Int.zero_mul
            have hp_ : ∀ {u v : Int}, 0 < u → 0 < v → 0 < u * v := fun h1 h2 => Int.mul_pos h1 h2
            have hres : a * d_ < c_ * b := by
              rcases htn with ht0 | ht0
              · rw [hinv.1 ht0, cr.1 (by omega)]; omega
              · rw [hinv.2 ht0, cr2.1 (by omega)]; omega
            exact cx_zretN X hr hlk (by omega) (by omega) (by rw [jB_t hres]) dc_M_isLess_66
  exact lp_1 ((2000000001 : Int).toNat + 1) 0 ls a b c_ d_ 0 ra ra2 rb (by omega) rc rc2 rd rd2 (Or.inl rfl) ⟨fun _ => Iff.rfl, fun q => absurd q (by decide)⟩ (by omega) (by omega) (by  exact lv_sub hl [4, 3, 2, 1, 0] rfl)
/-- a stock that is not parted has no shares -/
def cs_N0 (S : cs_S) : Prop := ∀ i h : Nat, S 14 i 0 = 0 → S 21 i h = 0
set_option maxHeartbeats 4000000 in
set_option maxRecDepth 100000 in
theorem c_M_choke (l : Launch) (u : cx_U) (ad : Nat → Nat → Nat) (S : cs_S) (sc : Nat → Nat → Int) (hI : cs_I S) (hN : cs_N0 S) (a : Int) (a1 : -2147483648 ≤ a) (a2 : a ≤ 2147483647) : cx_N l u mn_M_choke bc_M_choke 6 (some .int) 2 69 [.ref (ad 20 0), .int (jI (a))] (wM u ad S sc) (.int (jI (cs_chokeQ S a))) := by
  refine cx_N.of (by decide +kernel) (Nat.le_of_ble_eq_true rfl) ?_
  intro p e s m args below meth c ls A X hr hlk B hl
  have X : CallFix p m c bc_M_choke 6 s args GW "CatchSharesModel" := X
  have hl : lv_has ls 6 [(0, .ref (ad 20 0)), (1, .int (jI (a)))] := hl
  have hI1 := hI.1
  have hI5 := hI.2.2.2.2.1
  refine lv_aload_n X.1 X.2.1 dc_M_choke_0 rfl (lv_at hl 0 rfl) ?_
  refine lv_iload_n X.1 X.2.1 dc_M_choke_1 rfl (lv_at hl 1 rfl) ?_
  refine cx_cVN (r := .int (jI (jB (0 ≤ a ∧ a < S 1 0 0)))) (As := [.int (jI (a))]) (rest := []) X B kc_M_isHolder gm_M_100 (c_M_isHolder l u ad S sc hI a (by omega) (by omega)) (fun _ _ _ h => h) (wM_20 u ad S sc) rfl rfl ⟨(Nat.le_of_ble_eq_true rfl), (Nat.le_of_ble_eq_true rfl)⟩ ⟨(Nat.le_of_ble_eq_true rfl), (Nat.le_of_ble_eq_true rfl)⟩ rfl hl.1 (Nat.le_of_ble_eq_true rfl) dc_M_choke_2 rfl ?_
  refine cx_ifneB (tgt := 10) X dc_M_choke_5 (by decide) (fun c_1 => ?_) (fun c_1 => ?_)
  · obtain ⟨h, rfl⟩ : ∃ h : Nat, a = (h : Int) := ⟨a.toNat, by omega⟩
    have hh : (h : Int) < S 1 0 0 := by omega
    refine cx_iconst X dc_M_choke_10 ?_
    refine lv_istore_n (lv' := [(2, .int (jI (-1))), (0, .ref (ad 20 0)), (1, .int (jI ((h : Int))))]) X.1 X.2.1 dc_M_choke_11 rfl hl (by decide) rfl (fun ls hl => ?_)
    refine cx_iconst X dc_M_choke_12 ?_
    refine lv_istore_n (lv' := [(3, .int (jI (0))), (2, .int (jI (-1))), (0, .ref (ad 20 0)), (1, .int (jI ((h : Int))))]) X.1 X.2.1 dc_M_choke_13 rfl hl (by decide) rfl (fun ls hl => ?_)
    have lp_2 : ∀ (n_3 i : Nat) (ls : Array Slot) , (i : Int) ≤ S 0 0 0 → S 0 0 0 - (i : Int) < (n_3 : Int) → lv_has ls 6 [(0, .ref (ad 20 0)), (1, .int (jI ((h : Int)))), (2, .int (jI (cs_best S h i))), (3, .int (jI ((i : Int))))] → W p l e (cx_R 2 69 0 0) s m args below meth c s.heap [] 0 0 (MQ below (fun _ st_ oc_ t_ => oc_ = .returned (some (.int (jI (cs_chokeQ S (h : Int))))) ∧ t_.heap = st_.heap) args s 0 0 (fun _ => False)) (F0 m 14 ls []) := by
      intro n_3
      induction n_3 with
      | zero => intro i ls  hi_5 hn_6; exfalso; omega
      | succ n_3 ih_4 =>
        intro i ls  hi_5 hn_6 hl
        refine lv_iload_n X.1 X.2.1 dc_M_choke_14 rfl (lv_at hl 3 rfl) ?_
        rcases cs_best_b S h i with hb | ⟨k, hb, hki, hkp⟩
        · rw [hb] at hl
          refine lv_aload_n X.1 X.2.1 dc_M_choke_15 rfl (lv_at hl 0 rfl) ?_
          refine cx_get (v := .int (jI (S 0 0 0))) X B (wM_20 u ad S sc) rfl uw_M 0 (by decide) gf_M_79 rfl dc_M_choke_16 ?_
          refine cx_icmp_ge (tgt := 95) X (by omega) (by omega) (by omega) (by omega) dc_M_choke_19 (by decide) (fun c_7 => ?_) (fun c_7 => ?_)
          · refine lv_iload_n X.1 X.2.1 dc_M_choke_95 rfl (lv_at hl 2 rfl) ?_
            exact cx_iretN X hr hlk (by rw [cs_chokeQ, if_pos (by omega), cs_nn, show (S 0 0 0).toNat = i by omega, hb]) dc_M_choke_96
          · refine lv_aload_n X.1 X.2.1 dc_M_choke_22 rfl (lv_at hl 0 rfl) ?_
            refine cx_get (v := .ref (ad 32 0)) X B (wM_20 u ad S sc) rfl uw_M 13 (by decide) gf_M_45 rfl dc_M_choke_23 ?_
            refine cx_bipush X dc_M_choke_26 (by decide +kernel) ?_
            refine lv_iload_n X.1 X.2.1 dc_M_choke_28 rfl (lv_at hl 3 rfl) ?_
            refine cx_imul X dc_M_choke_29 ?_
            refine lv_iload_n X.1 X.2.1 dc_M_choke_30 rfl (lv_at hl 1 rfl) ?_
            refine cx_iadd X dc_M_choke_31 ?_
            refine cx_lald X B (wM_32 u ad S sc) ((12 * i) + h) (by omega) (by omega) (by decide) dc_M_choke_32 ?_
            rw [show ((12 * i) + h) / 12 = i by omega, show ((12 * i) + h) % 12 = h by omega]
            have r_8 := hI.2.2.2.2.2.1 i h
            refine lv_lstore (lv' := [(4, .long (jL (S 21 i h))), (0, .ref (ad 20 0)), (1, .int (jI ((h : Int)))), (2, .int (jI (-1))), (3, .int (jI ((i : Int))))]) X.1 X.2.1 dc_M_choke_33 hl (by decide) rfl (fun ls hl => ?_)
            refine lv_aload_n X.1 X.2.1 dc_M_choke_35 rfl (lv_at hl 1 rfl) ?_
            refine cx_get (v := .ref (ad 24 0)) X B (wM_20 u ad S sc) rfl uw_M 4 (by decide) gf_M_20 rfl dc_M_choke_36 ?_
            refine lv_iload_n X.1 X.2.1 dc_M_choke_39 rfl (lv_at hl 4 rfl) ?_
            refine cx_zald X B (wM_24 u ad S sc) (i) (by omega) (by omega) (by decide) dc_M_choke_40 ?_
            have r_9 := hI5 i
            refine cx_if_eq (tgt := 89) X (by omega) (by omega) dc_M_choke_41 (by decide) (fun c_10 => ?_) (fun c_10 => ?_)
            · refine lv_iinc (v := jI ((i : Int) + 1)) (lv' := [(3, .int (jI ((i : Int) + 1))), (4, .long (jL (S 21 i h))), (0, .ref (ad 20 0)), (1, .int (jI ((h : Int)))), (2, .int (jI (-1)))]) X.1 X.2.1 dc_M_choke_89 hl (k := 4) rfl (jI_add _ _) (by decide) rfl (fun ls hl => ?_)
              refine lv_goto (tgt := 14) X.1 X.2.1 dc_M_choke_92 (by decide) ?_
              have qq : cs_best S h (i + 1) = -1 := by rw [cs_best_s, if_neg (fun q => by have q1 := q.1; have q2 := hN i h; omega), hb]
              exact ih_4 (i + 1) ls  (by omega) (by omega) (by rw [qq]; exact lv_sub hl [2, 3, 4, 0] rfl)
            · refine lv_lload X.1 X.2.1 dc_M_choke_44 (lv_at hl 0 rfl) ?_
              refine cx_lconst (a := 0) X dc_M_choke_46 (by decide +kernel) ?_
              refine cx_lcmp_le (tgt := 89) X (by omega) (by omega) (by omega) (by omega) dc_M_choke_47 dc_M_choke_48 (by decide) (fun c_11 => ?_) (fun c_11 => ?_)
              · refine lv_iinc (v := jI ((i : Int) + 1)) (lv' := [(3, .int (jI ((i : Int) + 1))), (4, .long (jL (S 21 i h))), (0, .ref (ad 20 0)), (1, .int (jI ((h : Int)))), (2, .int (jI (-1)))]) X.1 X.2.1 dc_M_choke_89 hl (k := 4) rfl (jI_add _ _) (by decide) rfl (fun ls hl => ?_)
                refine lv_goto (tgt := 14) X.1 X.2.1 dc_M_choke_92 (by decide) ?_
                have qq : cs_best S h (i + 1) = -1 := by rw [cs_best_s, if_neg (fun q => by have q1 := q.1; have q2 := hN i h; omega), hb]
                exact ih_4 (i + 1) ls  (by omega) (by omega) (by rw [qq]; exact lv_sub hl [2, 3, 4, 0] rfl)
              · refine lv_iload_n X.1 X.2.1 dc_M_choke_51 rfl (lv_at hl 3 rfl) ?_
                refine cx_iconst X dc_M_choke_52 ?_
                refine cx_icmp_eq (tgt := 87) X (by omega) (by omega) (by omega) (by omega) dc_M_choke_53 (by decide) (fun c_12 => ?_) (fun c_12 => by exfalso; omega)
                refine lv_iload_n X.1 X.2.1 dc_M_choke_87 rfl (lv_at hl 4 rfl) ?_
                refine lv_istore_n (lv' := [(2, .int (jI ((i : Int)))), (4, .long (jL (S 21 i h))), (0, .ref (ad 20 0)), (1, .int (jI ((h : Int)))), (3, .int (jI ((i : Int))))]) X.1 X.2.1 dc_M_choke_88 rfl hl (by decide) rfl (fun ls hl => ?_)
                refine lv_iinc (v := jI ((i : Int) + 1)) (lv' := [(3, .int (jI ((i : Int) + 1))), (2, .int (jI ((i : Int)))), (4, .long (jL (S 21 i h))), (0, .ref (ad 20 0)), (1, .int (jI ((h : Int))))]) X.1 X.2.1 dc_M_choke_89 hl (k := 4) rfl (jI_add _ _) (by decide) rfl (fun ls hl => ?_)
                refine lv_goto (tgt := 14) X.1 X.2.1 dc_M_choke_92 (by decide) ?_
                have qq : cs_best S h (i + 1) = (i : Int) := by rw [cs_best_s, if_pos ⟨by omega, Or.inl (by omega)⟩]
                exact ih_4 (i + 1) ls  (by omega) (by omega) (by rw [qq]; exact lv_sub hl [3, 4, 1, 0] rfl)
        · rw [hb] at hl
          have hk : (k : Int) < S 0 0 0 := by omega
          refine lv_aload_n X.1 X.2.1 dc_M_choke_15 rfl (lv_at hl 0 rfl) ?_
          refine cx_get (v := .int (jI (S 0 0 0))) X B (wM_20 u ad S sc) rfl uw_M 0 (by decide) gf_M_79 rfl dc_M_choke_16 ?_
          refine cx_icmp_ge (tgt := 95) X (by omega) (by omega) (by omega) (by omega) dc_M_choke_19 (by decide) (fun c_13 => ?_) (fun c_13 => ?_)
          · refine lv_iload_n X.1 X.2.1 dc_M_choke_95 rfl (lv_at hl 2 rfl) ?_
            exact cx_iretN X hr hlk (by rw [cs_chokeQ, if_pos (by omega), cs_nn, show (S 0 0 0).toNat = i by omega, hb]) dc_M_choke_96
          · refine lv_aload_n X.1 X.2.1 dc_M_choke_22 rfl (lv_at hl 0 rfl) ?_
            refine cx_get (v := .ref (ad 32 0)) X B (wM_20 u ad S sc) rfl uw_M 13 (by decide) gf_M_45 rfl dc_M_choke_23 ?_
            refine cx_bipush X dc_M_choke_26 (by decide +kernel) ?_
            refine lv_iload_n X.1 X.2.1 dc_M_choke_28 rfl (lv_at hl 3 rfl) ?_
            refine cx_imul X dc_M_choke_29 ?_
            refine lv_iload_n X.1 X.2.1 dc_M_choke_30 rfl (lv_at hl 1 rfl) ?_
            refine cx_iadd X dc_M_choke_31 ?_
            refine cx_lald X B (wM_32 u ad S sc) ((12 * i) + h) (by omega) (by omega) (by decide) dc_M_choke_32 ?_
            rw [show ((12 * i) + h) / 12 = i by omega, show ((12 * i) + h) % 12 = h by omega]
            have r_14 := hI.2.2.2.2.2.1 i h
            refine lv_lstore (lv' := [(4, .long (jL (S 21 i h))), (0, .ref (ad 20 0)), (1, .int (jI ((h : Int)))), (2, .int (jI ((k : Int)))), (3, .int (jI ((i : Int))))]) X.1 X.2.1 dc_M_choke_33 hl (by decide) rfl (fun ls hl => ?_)
            refine lv_aload_n X.1 X.2.1 dc_M_choke_35 rfl (lv_at hl 1 rfl) ?_
            refine cx_get (v := .ref (ad 24 0)) X B (wM_20 u ad S sc) rfl uw_M 4 (by decide) gf_M_20 rfl dc_M_choke_36 ?_
            refine lv_iload_n X.1 X.2.1 dc_M_choke_39 rfl (lv_at hl 4 rfl) ?_
            refine cx_zald X B (wM_24 u ad S sc) (i) (by omega) (by omega) (by decide) dc_M_choke_40 ?_
            have r_15 := hI5 i
            refine cx_if_eq (tgt := 89) X (by omega) (by omega) dc_M_choke_41 (by decide) (fun c_16 => ?_) (fun c_16 => ?_)
            · refine lv_iinc (v := jI ((i : Int) + 1)) (lv' := [(3, .int (jI ((i : Int) + 1))), (4, .long (jL (S 21 i h))), (0, .ref (ad 20 0)), (1, .int (jI ((h : Int)))), (2, .int (jI ((k : Int))))]) X.1 X.2.1 dc_M_choke_89 hl (k := 4) rfl (jI_add _ _) (by decide) rfl (fun ls hl => ?_)
              refine lv_goto (tgt := 14) X.1 X.2.1 dc_M_choke_92 (by decide) ?_
              have qq : cs_best S h (i + 1) = (k : Int) := by rw [cs_best_s, if_neg (fun q => by have q1 := q.1; have q2 := hN i h; have q3 := q.2; rw [hb] at q3; simp only [cs_nn] at q3; omega), hb]
              exact ih_4 (i + 1) ls  (by omega) (by omega) (by rw [qq]; exact lv_sub hl [2, 3, 4, 0] rfl)
            · refine lv_lload X.1 X.2.1 dc_M_choke_44 (lv_at hl 0 rfl) ?_
              refine cx_lconst (a := 0) X dc_M_choke_46 (by decide +kernel) ?_
              refine cx_lcmp_le (tgt := 89) X (by omega) (by omega) (by omega) (by omega) dc_M_choke_47 dc_M_choke_48 (by decide) (fun c_17 => ?_) (fun c_17 => ?_)
              · refine lv_iinc (v := jI ((i : Int) + 1)) (lv' := [(3, .int (jI ((i : Int) + 1))), (4, .long (jL (S 21 i h))), (0, .ref (ad 20 0)), (1, .int (jI ((h : Int)))), (2, .int (jI ((k : Int))))]) X.1 X.2.1 dc_M_choke_89 hl (k := 4) rfl (jI_add _ _) (by decide) rfl (fun ls hl => ?_)
                refine lv_goto (tgt := 14) X.1 X.2.1 dc_M_choke_92 (by decide) ?_
                have qq : cs_best S h (i + 1) = (k : Int) := by rw [cs_best_s, if_neg (fun q => by have q1 := q.1; have q2 := hN i h; have q3 := q.2; rw [hb] at q3; simp only [cs_nn] at q3; omega), hb]
                exact ih_4 (i + 1) ls  (by omega) (by omega) (by rw [qq]; exact lv_sub hl [2, 3, 4, 0] rfl)
              · refine lv_iload_n X.1 X.2.1 dc_M_choke_51 rfl (lv_at hl 3 rfl) ?_
                refine cx_iconst X dc_M_choke_52 ?_
                refine cx_icmp_eq (tgt := 87) X (by omega) (by omega) (by omega) (by omega) dc_M_choke_53 (by decide) (fun c_18 => by exfalso; omega) (fun c_18 => ?_)
                refine lv_aload_n X.1 X.2.1 dc_M_choke_56 rfl (lv_at hl 1 rfl) ?_
                refine lv_iload_n X.1 X.2.1 dc_M_choke_57 rfl (lv_at hl 4 rfl) ?_
                refine lv_iload_n X.1 X.2.1 dc_M_choke_58 rfl (lv_at hl 2 rfl) ?_
                refine cx_cVN (r := .long (jL (cs_lf S i h))) (As := [.int (jI ((i : Int))), .int (jI ((h : Int)))]) (rest := []) X B kc_M_leftOf gm_M_125 (c_M_leftOf l u ad S sc hI i h (by omega) (by omega)) (fun _ _ _ h => h) (wM_20 u ad S sc) rfl rfl ⟨(Nat.le_of_ble_eq_true rfl), (Nat.le_of_ble_eq_true rfl)⟩ ⟨(Nat.le_of_ble_eq_true rfl), (Nat.le_of_ble_eq_true rfl)⟩ rfl hl.1 (Nat.le_of_ble_eq_true rfl) dc_M_choke_59 rfl ?_
                have r_19 := cs_lf_b hI i h
                refine lv_lload X.1 X.2.1 dc_M_choke_62 (lv_at hl 0 rfl) ?_
                refine lv_aload_n X.1 X.2.1 dc_M_choke_64 rfl (lv_at hl 1 rfl) ?_
                refine lv_iload_n X.1 X.2.1 dc_M_choke_65 rfl (lv_at hl 3 rfl) ?_
                refine lv_iload_n X.1 X.2.1 dc_M_choke_66 rfl (lv_at hl 2 rfl) ?_
                refine cx_cVN (r := .long (jL (cs_lf S k h))) (As := [.int (jI ((k : Int))), .int (jI ((h : Int)))]) (rest := [.long (jL (S 21 i h)), .long (jL (cs_lf S i h))]) X B kc_M_leftOf gm_M_125 (c_M_leftOf l u ad S sc hI k h (by omega) (by omega)) (fun _ _ _ h => h) (wM_20 u ad S sc) rfl rfl ⟨(Nat.le_of_ble_eq_true rfl), (Nat.le_of_ble_eq_true rfl)⟩ ⟨(Nat.le_of_ble_eq_true rfl), (Nat.le_of_ble_eq_true rfl)⟩ rfl hl.1 (Nat.le_of_ble_eq_true rfl) dc_M_choke_67 rfl ?_
                have r_20 := cs_lf_b hI k h
                refine lv_aload_n X.1 X.2.1 dc_M_choke_70 rfl (lv_at hl 1 rfl) ?_
                refine cx_get (v := .ref (ad 32 0)) X B (wM_20 u ad S sc) rfl uw_M 13 (by decide) gf_M_45 rfl dc_M_choke_71 ?_
                refine cx_bipush X dc_M_choke_74 (by decide +kernel) ?_
                refine lv_iload_n X.1 X.2.1 dc_M_choke_76 rfl (lv_at hl 3 rfl) ?_
                refine cx_imul X dc_M_choke_77 ?_
                refine lv_iload_n X.1 X.2.1 dc_M_choke_78 rfl (lv_at hl 2 rfl) ?_
                refine cx_iadd X dc_M_choke_79 ?_
                refine cx_lald X B (wM_32 u ad S sc) ((12 * k) + h) (by omega) (by omega) (by decide) dc_M_choke_80 ?_
                rw [show ((12 * k) + h) / 12 = k by omega, show ((12 * k) + h) % 12 = h by omega]
                have r_21 := hI.2.2.2.2.2.1 k h
                refine cx_cSN (r := .int (jI (jB (cs_lf S i h * S 21 k h < cs_lf S k h * S 21 i h)))) (As := [.long (jL (cs_lf S i h)), .long (jL (S 21 i h)), .long (jL (cs_lf S k h)), .long (jL (S 21 k h))]) (rest := []) X B kc_M_isLess gm_M_161 (c_M_isLess l u _ (cs_lf S i h) (S 21 i h) (cs_lf S k h) (S 21 k h) (by omega) (by omega) (by omega) (by omega) (by omega) (by omega) (by omega) (by omega)) (fun _ _ _ h => h) ⟨(Nat.le_of_ble_eq_true rfl), (Nat.le_of_ble_eq_true rfl)⟩ ⟨(Nat.le_of_ble_eq_true rfl), (Nat.le_of_ble_eq_true rfl)⟩ rfl hl.1 (Nat.le_of_ble_eq_true rfl) dc_M_choke_81 rfl ?_
                refine cx_ifeqB (tgt := 89) X dc_M_choke_84 (by decide) (fun c_22 => ?_) (fun c_22 => ?_)
                · refine lv_iinc (v := jI ((i : Int) + 1)) (lv' := [(3, .int (jI ((i : Int) + 1))), (4, .long (jL (S 21 i h))), (0, .ref (ad 20 0)), (1, .int (jI ((h : Int)))), (2, .int (jI ((k : Int))))]) X.1 X.2.1 dc_M_choke_89 hl (k := 4) rfl (jI_add _ _) (by decide) rfl (fun ls hl => ?_)
                  refine lv_goto (tgt := 14) X.1 X.2.1 dc_M_choke_92 (by decide) ?_
                  have qq : cs_best S h (i + 1) = (k : Int) := by rw [cs_best_s, if_neg (fun q => by have q1 := q.1; have q2 := hN i h; have q3 := q.2; rw [hb] at q3; simp only [cs_nn] at q3; omega), hb]
                  exact ih_4 (i + 1) ls  (by omega) (by omega) (by rw [qq]; exact lv_sub hl [2, 3, 4, 0] rfl)
                · refine lv_iload_n X.1 X.2.1 dc_M_choke_87 rfl (lv_at hl 4 rfl) ?_
                  refine lv_istore_n (lv' := [(2, .int (jI ((i : Int)))), (4, .long (jL (S 21 i h))), (0, .ref (ad 20 0)), (1, .int (jI ((h : Int)))), (3, .int (jI ((i : Int))))]) X.1 X.2.1 dc_M_choke_88 rfl hl (by decide) rfl (fun ls hl => ?_)
                  refine lv_iinc (v := jI ((i : Int) + 1)) (lv' := [(3, .int (jI ((i : Int) + 1))), (2, .int (jI ((i : Int)))), (4, .long (jL (S 21 i h))), (0, .ref (ad 20 0)), (1, .int (jI ((h : Int))))]) X.1 X.2.1 dc_M_choke_89 hl (k := 4) rfl (jI_add _ _) (by decide) rfl (fun ls hl => ?_)
                  refine lv_goto (tgt := 14) X.1 X.2.1 dc_M_choke_92 (by decide) ?_
                  have qq : cs_best S h (i + 1) = (i : Int) := by rw [cs_best_s, if_pos ⟨by omega, Or.inr (by rw [hb]; assumption)⟩]
                  exact ih_4 (i + 1) ls  (by omega) (by omega) (by rw [qq]; exact lv_sub hl [3, 4, 1, 0] rfl)
    exact lp_2 ((S 0 0 0 : Int).toNat + 1) 0 ls  (by omega) (by omega) (by rw [show cs_best S h 0 = -1 from rfl]; exact lv_sub hl [2, 3, 1, 0] rfl)
  · refine cx_iconst X dc_M_choke_8 ?_
    exact cx_iretN X hr hlk (by rw [cs_chokeQ, if_neg (by omega)]) dc_M_choke_9
