section CXR
variable {p : Program} {l : Launch} {e : Env} {R : Room} {s : State} {m : MethodId} {args : Array Value} {below : List Frame} {meth : Method} {c : Code} {H : Heap} {locs : List Loc} {cells slots : Nat} {Q : State → Prop}
variable {cc : ByteArray} {pc nL : Nat} {ls : Array Slot} {rest : List Value} {own : String}
theorem cx_iadd (X : CallFix p m c cc nL s args GW own) {a b : Int} (hdg : decode cc pc = .ok (.iadd, 1)) (k : W p l e R s m args below meth c H locs cells slots Q (F0 m (pc + 1) ls (.int (jI (a + b)) :: rest))) : W p l e R s m args below meth c H locs cells slots Q (F0 m pc ls (.int (jI b) :: .int (jI a) :: rest)) := lv_iadd X.1 X.2.1 hdg (by rw [jI_add]; exact k)
theorem cx_isub (X : CallFix p m c cc nL s args GW own) {a b : Int} (hdg : decode cc pc = .ok (.isub, 1)) (k : W p l e R s m args below meth c H locs cells slots Q (F0 m (pc + 1) ls (.int (jI (a - b)) :: rest))) : W p l e R s m args below meth c H locs cells slots Q (F0 m pc ls (.int (jI b) :: .int (jI a) :: rest)) := lv_isub X.1 X.2.1 hdg (by rw [jI_sub]; exact k)
theorem cx_imul (X : CallFix p m c cc nL s args GW own) {a b : Int} (hdg : decode cc pc = .ok (.imul, 1)) (k : W p l e R s m args below meth c H locs cells slots Q (F0 m (pc + 1) ls (.int (jI (a * b)) :: rest))) : W p l e R s m args below meth c H locs cells slots Q (F0 m pc ls (.int (jI b) :: .int (jI a) :: rest)) := lv_imul X.1 X.2.1 hdg (by rw [jI_mul]; exact k)
theorem cx_ladd (X : CallFix p m c cc nL s args GW own) {a b : Int} (hdg : decode cc pc = .ok (.ladd, 1)) (k : W p l e R s m args below meth c H locs cells slots Q (F0 m (pc + 1) ls (.long (jL (a + b)) :: rest))) : W p l e R s m args below meth c H locs cells slots Q (F0 m pc ls (.long (jL b) :: .long (jL a) :: rest)) := lv_ladd X.1 X.2.1 hdg (by rw [jL_add]; exact k)
theorem cx_lsub (X : CallFix p m c cc nL s args GW own) {a b : Int} (hdg : decode cc pc = .ok (.lsub, 1)) (k : W p l e R s m args below meth c H locs cells slots Q (F0 m (pc + 1) ls (.long (jL (a - b)) :: rest))) : W p l e R s m args below meth c H locs cells slots Q (F0 m pc ls (.long (jL b) :: .long (jL a) :: rest)) := lv_lsub X.1 X.2.1 hdg (by rw [jL_sub]; exact k)
theorem cx_lmul (X : CallFix p m c cc nL s args GW own) {a b : Int} (hdg : decode cc pc = .ok (.lmul, 1)) (k : W p l e R s m args below meth c H locs cells slots Q (F0 m (pc + 1) ls (.long (jL (a * b)) :: rest))) : W p l e R s m args below meth c H locs cells slots Q (F0 m pc ls (.long (jL b) :: .long (jL a) :: rest)) := lv_lmul X.1 X.2.1 hdg (by rw [jL_mul]; exact k)
theorem cx_ineg (X : CallFix p m c cc nL s args GW own) {a : Int} (hdg : decode cc pc = .ok (.ineg, 1)) (k : W p l e R s m args below meth c H locs cells slots Q (F0 m (pc + 1) ls (.int (jI (-a)) :: rest))) : W p l e R s m args below meth c H locs cells slots Q (F0 m pc ls (.int (jI a) :: rest)) := lv_ineg X.1 X.2.1 hdg (by rw [jI_neg]; exact k)
theorem cx_lneg (X : CallFix p m c cc nL s args GW own) {a : Int} (hdg : decode cc pc = .ok (.lneg, 1)) (k : W p l e R s m args below meth c H locs cells slots Q (F0 m (pc + 1) ls (.long (jL (-a)) :: rest))) : W p l e R s m args below meth c H locs cells slots Q (F0 m pc ls (.long (jL a) :: rest)) := lv_lneg X.1 X.2.1 hdg (by rw [jL_neg]; exact k)
theorem cx_ldiv (X : CallFix p m c cc nL s args GW own) {a b : Int} (h1 : 0 ≤ a) (h2 : a ≤ 9223372036854775807) (h3 : 0 < b) (h4 : b ≤ 9223372036854775807) (hdg : decode cc pc = .ok (.ldiv, 1)) (k : W p l e R s m args below meth c H locs cells slots Q (F0 m (pc + 1) ls (.long (jL (a / b)) :: rest))) : W p l e R s m args below meth c H locs cells slots Q (F0 m pc ls (.long (jL b) :: .long (jL a) :: rest)) := lv_ldiv X.1 X.2.1 hdg (jL_ne0 (by omega) (by omega) h4) (by rw [jL_div h1 h2 h3 h4]; exact k)
theorem cx_lrem (X : CallFix p m c cc nL s args GW own) {a b : Int} (h1 : 0 ≤ a) (h2 : a ≤ 9223372036854775807) (h3 : 0 < b) (h4 : b ≤ 9223372036854775807) (hdg : decode cc pc = .ok (.lrem, 1)) (k : W p l e R s m args below meth c H locs cells slots Q (F0 m (pc + 1) ls (.long (jL (a % b)) :: rest))) : W p l e R s m args below meth c H locs cells slots Q (F0 m pc ls (.long (jL b) :: .long (jL a) :: rest)) := lv_lrem X.1 X.2.1 hdg (jL_ne0 (by omega) (by omega) h4) (by rw [jL_rem h1 h2 h3 h4]; exact k)
theorem cx_i2l (X : CallFix p m c cc nL s args GW own) {a : Int} (h1 : -2147483648 ≤ a) (h2 : a ≤ 2147483647) (hdg : decode cc pc = .ok (.i2l, 1)) (k : W p l e R s m args below meth c H locs cells slots Q (F0 m (pc + 1) ls (.long (jL a) :: rest))) : W p l e R s m args below meth c H locs cells slots Q (F0 m pc ls (.int (jI a) :: rest)) := lv_i2l X.1 X.2.1 hdg (jI_l h1 h2) k
theorem cx_iconst (X : CallFix p m c cc nL s args GW own) {n : Int} (hdg : decode cc pc = .ok (.iconst n, 1)) (k : W p l e R s m args below meth c H locs cells slots Q (F0 m (pc + 1) ls (.int (jI n) :: rest))) : W p l e R s m args below meth c H locs cells slots Q (F0 m pc ls rest) := lv_iconst X.1 X.2.1 hdg rfl k
theorem cx_bipush (X : CallFix p m c cc nL s args GW own) {n : Int} (hdg : decode cc pc = .ok (.bipush n, 2)) (hv : (Int8.ofInt n).toInt32 = jI n) (k : W p l e R s m args below meth c H locs cells slots Q (F0 m (pc + 2) ls (.int (jI n) :: rest))) : W p l e R s m args below meth c H locs cells slots Q (F0 m pc ls rest) := lv_bipush X.1 X.2.1 hdg hv k
theorem cx_sipush (X : CallFix p m c cc nL s args GW own) {n : Int} (hdg : decode cc pc = .ok (.sipush n, 3)) (hv : (Int16.ofInt n).toInt32 = jI n) (k : W p l e R s m args below meth c H locs cells slots Q (F0 m (pc + 3) ls (.int (jI n) :: rest))) : W p l e R s m args below meth c H locs cells slots Q (F0 m pc ls rest) := lv_sipush X.1 X.2.1 hdg hv k
theorem cx_lconst (X : CallFix p m c cc nL s args GW own) {n : Fin 2} {a : Int} (hdg : decode cc pc = .ok (.lconst n, 1)) (hv : Int64.ofNat (n : Nat) = jL a) (k : W p l e R s m args below meth c H locs cells slots Q (F0 m (pc + 1) ls (.long (jL a) :: rest))) : W p l e R s m args below meth c H locs cells slots Q (F0 m pc ls rest) := lv_lconst X.1 X.2.1 hdg hv k
theorem cx_ldc (X : CallFix p m c cc nL s args GW own) {index : Nat} {v : Int32} {a : Int} (hw : Cond.constant own index v ∈ GW) (hv : v = jI a) (hdg : decode cc pc = .ok (.ldc index, 2)) (k : W p l e R s m args below meth c H locs cells slots Q (F0 m (pc + 2) ls (.int (jI a) :: rest))) : W p l e R s m args below meth c H locs cells slots Q (F0 m pc ls rest) := lv_ldc X.1 X.2.1 X.2.2.2.1 (X.2.2.2.2 _ hw) hdg (by rw [hv]; exact k)
theorem cx_ldc2 (X : CallFix p m c cc nL s args GW own) {index : Nat} {v : Int64} {a : Int} (hw : Cond.constantLong own index v ∈ GW) (hv : v = jL a) (hdg : decode cc pc = .ok (.ldc2_w index, 3)) (k : W p l e R s m args below meth c H locs cells slots Q (F0 m (pc + 3) ls (.long (jL a) :: rest))) : W p l e R s m args below meth c H locs cells slots Q (F0 m pc ls rest) := lv_ldc2 X.1 X.2.1 X.2.2.2.1 (X.2.2.2.2 _ hw) hdg (by rw [hv]; exact k)
theorem cx_icmp_eq (X : CallFix p m c cc nL s args GW own) {a b : Int} {off : Int} {tgt : Nat} (h1 : -2147483648 ≤ a) (h2 : a ≤ 2147483647) (h3 : -2147483648 ≤ b) (h4 : b ≤ 2147483647) (hdg : decode cc pc = .ok (.if_icmp .eq off, 3)) (ht : (pc : Int) + off = (tgt : Int)) (kt : a = b → W p l e R s m args below meth c H locs cells slots Q (F0 m tgt ls rest)) (kf : ¬ (a = b) → W p l e R s m args below meth c H locs cells slots Q (F0 m (pc + 3) ls rest)) : W p l e R s m args below meth c H locs cells slots Q (F0 m pc ls (.int (jI b) :: .int (jI a) :: rest)) := lv_icmp_eq X.1 X.2.1 hdg ht (fun h => kt ((jI_eq h1 h2 h3 h4).mp h)) (fun h => kf (fun q => h ((jI_eq h1 h2 h3 h4).mpr q)))
theorem cx_if_eq (X : CallFix p m c cc nL s args GW own) {a : Int} {off : Int} {tgt : Nat} (h1 : -2147483648 ≤ a) (h2 : a ≤ 2147483647) (hdg : decode cc pc = .ok (.ifCond .eq off, 3)) (ht : (pc : Int) + off = (tgt : Int)) (kt : a = 0 → W p l e R s m args below meth c H locs cells slots Q (F0 m tgt ls rest)) (kf : ¬ (a = 0) → W p l e R s m args below meth c H locs cells slots Q (F0 m (pc + 3) ls rest)) : W p l e R s m args below meth c H locs cells slots Q (F0 m pc ls (.int (jI a) :: rest)) := lv_if_eq X.1 X.2.1 hdg ht (fun h => kt ((jI_eq h1 h2 (by omega) (by omega)).mp (by rw [jI_0]; exact h))) (fun h => kf (fun q => h (by have h9 := (jI_eq h1 h2 (by omega) (by omega)).mpr q; rw [jI_0] at h9; exact h9)))
theorem cx_icmp_ne (X : CallFix p m c cc nL s args GW own) {a b : Int} {off : Int} {tgt : Nat} (h1 : -2147483648 ≤ a) (h2 : a ≤ 2147483647) (h3 : -2147483648 ≤ b) (h4 : b ≤ 2147483647) (hdg : decode cc pc = .ok (.if_icmp .ne off, 3)) (ht : (pc : Int) + off = (tgt : Int)) (kt : ¬ a = b → W p l e R s m args below meth c H locs cells slots Q (F0 m tgt ls rest)) (kf : a = b → W p l e R s m args below meth c H locs cells slots Q (F0 m (pc + 3) ls rest)) : W p l e R s m args below meth c H locs cells slots Q (F0 m pc ls (.int (jI b) :: .int (jI a) :: rest)) := lv_icmp_ne X.1 X.2.1 hdg ht (fun h => kt ((not_congr (jI_eq h1 h2 h3 h4)).mp h)) (fun h => kf ((jI_eq h1 h2 h3 h4).mp h))
theorem cx_if_ne (X : CallFix p m c cc nL s args GW own) {a : Int} {off : Int} {tgt : Nat} (h1 : -2147483648 ≤ a) (h2 : a ≤ 2147483647) (hdg : decode cc pc = .ok (.ifCond .ne off, 3)) (ht : (pc : Int) + off = (tgt : Int)) (kt : ¬ a = 0 → W p l e R s m args below meth c H locs cells slots Q (F0 m tgt ls rest)) (kf : a = 0 → W p l e R s m args below meth c H locs cells slots Q (F0 m (pc + 3) ls rest)) : W p l e R s m args below meth c H locs cells slots Q (F0 m pc ls (.int (jI a) :: rest)) := lv_if_ne X.1 X.2.1 hdg ht (fun h => kt ((not_congr (jI_eq h1 h2 (by omega) (by omega))).mp (by rw [jI_0]; exact h))) (fun h => kf ((jI_eq h1 h2 (by omega) (by omega)).mp (by rw [jI_0]; exact h)))
theorem cx_icmp_lt (X : CallFix p m c cc nL s args GW own) {a b : Int} {off : Int} {tgt : Nat} (h1 : -2147483648 ≤ a) (h2 : a ≤ 2147483647) (h3 : -2147483648 ≤ b) (h4 : b ≤ 2147483647) (hdg : decode cc pc = .ok (.if_icmp .lt off, 3)) (ht : (pc : Int) + off = (tgt : Int)) (kt : a < b → W p l e R s m args below meth c H locs cells slots Q (F0 m tgt ls rest)) (kf : ¬ (a < b) → W p l e R s m args below meth c H locs cells slots Q (F0 m (pc + 3) ls rest)) : W p l e R s m args below meth c H locs cells slots Q (F0 m pc ls (.int (jI b) :: .int (jI a) :: rest)) := lv_icmp_lt X.1 X.2.1 hdg ht (fun h => kt ((jI_lt h1 h2 h3 h4).mp h)) (fun h => kf (fun q => h ((jI_lt h1 h2 h3 h4).mpr q)))
theorem cx_if_lt (X : CallFix p m c cc nL s args GW own) {a : Int} {off : Int} {tgt : Nat} (h1 : -2147483648 ≤ a) (h2 : a ≤ 2147483647) (hdg : decode cc pc = .ok (.ifCond .lt off, 3)) (ht : (pc : Int) + off = (tgt : Int)) (kt : a < 0 → W p l e R s m args below meth c H locs cells slots Q (F0 m tgt ls rest)) (kf : ¬ (a < 0) → W p l e R s m args below meth c H locs cells slots Q (F0 m (pc + 3) ls rest)) : W p l e R s m args below meth c H locs cells slots Q (F0 m pc ls (.int (jI a) :: rest)) := lv_if_lt X.1 X.2.1 hdg ht (fun h => kt ((jI_lt h1 h2 (by omega) (by omega)).mp (by rw [jI_0]; exact h))) (fun h => kf (fun q => h (by have h9 := (jI_lt h1 h2 (by omega) (by omega)).mpr q; rw [jI_0] at h9; exact h9)))
theorem cx_icmp_ge (X : CallFix p m c cc nL s args GW own) {a b : Int} {off : Int} {tgt : Nat} (h1 : -2147483648 ≤ a) (h2 : a ≤ 2147483647) (h3 : -2147483648 ≤ b) (h4 : b ≤ 2147483647) (hdg : decode cc pc = .ok (.if_icmp .ge off, 3)) (ht : (pc : Int) + off = (tgt : Int)) (kt : b ≤ a → W p l e R s m args below meth c H locs cells slots Q (F0 m tgt ls rest)) (kf : ¬ (b ≤ a) → W p l e R s m args below meth c H locs cells slots Q (F0 m (pc + 3) ls rest)) : W p l e R s m args below meth c H locs cells slots Q (F0 m pc ls (.int (jI b) :: .int (jI a) :: rest)) := lv_icmp_ge X.1 X.2.1 hdg ht (fun h => kt ((jI_le h3 h4 h1 h2).mp h)) (fun h => kf (fun q => h ((jI_le h3 h4 h1 h2).mpr q)))
theorem cx_if_ge (X : CallFix p m c cc nL s args GW own) {a : Int} {off : Int} {tgt : Nat} (h1 : -2147483648 ≤ a) (h2 : a ≤ 2147483647) (hdg : decode cc pc = .ok (.ifCond .ge off, 3)) (ht : (pc : Int) + off = (tgt : Int)) (kt : 0 ≤ a → W p l e R s m args below meth c H locs cells slots Q (F0 m tgt ls rest)) (kf : ¬ (0 ≤ a) → W p l e R s m args below meth c H locs cells slots Q (F0 m (pc + 3) ls rest)) : W p l e R s m args below meth c H locs cells slots Q (F0 m pc ls (.int (jI a) :: rest)) := lv_if_ge X.1 X.2.1 hdg ht (fun h => kt ((jI_le (by omega) (by omega) h1 h2).mp (by rw [jI_0]; exact h))) (fun h => kf (fun q => h (by have h9 := (jI_le (by omega) (by omega) h1 h2).mpr q; rw [jI_0] at h9; exact h9)))
theorem cx_icmp_gt (X : CallFix p m c cc nL s args GW own) {a b : Int} {off : Int} {tgt : Nat} (h1 : -2147483648 ≤ a) (h2 : a ≤ 2147483647) (h3 : -2147483648 ≤ b) (h4 : b ≤ 2147483647) (hdg : decode cc pc = .ok (.if_icmp .gt off, 3)) (ht : (pc : Int) + off = (tgt : Int)) (kt : b < a → W p l e R s m args below meth c H locs cells slots Q (F0 m tgt ls rest)) (kf : ¬ (b < a) → W p l e R s m args below meth c H locs cells slots Q (F0 m (pc + 3) ls rest)) : W p l e R s m args below meth c H locs cells slots Q (F0 m pc ls (.int (jI b) :: .int (jI a) :: rest)) := lv_icmp_gt X.1 X.2.1 hdg ht (fun h => kt ((jI_lt h3 h4 h1 h2).mp h)) (fun h => kf (fun q => h ((jI_lt h3 h4 h1 h2).mpr q)))
theorem cx_if_gt (X : CallFix p m c cc nL s args GW own) {a : Int} {off : Int} {tgt : Nat} (h1 : -2147483648 ≤ a) (h2 : a ≤ 2147483647) (hdg : decode cc pc = .ok (.ifCond .gt off, 3)) (ht : (pc : Int) + off = (tgt : Int)) (kt : 0 < a → W p l e R s m args below meth c H locs cells slots Q (F0 m tgt ls rest)) (kf : ¬ (0 < a) → W p l e R s m args below meth c H locs cells slots Q (F0 m (pc + 3) ls rest)) : W p l e R s m args below meth c H locs cells slots Q (F0 m pc ls (.int (jI a) :: rest)) := lv_if_gt X.1 X.2.1 hdg ht (fun h => kt ((jI_lt (by omega) (by omega) h1 h2).mp (by rw [jI_0]; exact h))) (fun h => kf (fun q => h (by have h9 := (jI_lt (by omega) (by omega) h1 h2).mpr q; rw [jI_0] at h9; exact h9)))
theorem cx_icmp_le (X : CallFix p m c cc nL s args GW own) {a b : Int} {off : Int} {tgt : Nat} (h1 : -2147483648 ≤ a) (h2 : a ≤ 2147483647) (h3 : -2147483648 ≤ b) (h4 : b ≤ 2147483647) (hdg : decode cc pc = .ok (.if_icmp .le off, 3)) (ht : (pc : Int) + off = (tgt : Int)) (kt : a ≤ b → W p l e R s m args below meth c H locs cells slots Q (F0 m tgt ls rest)) (kf : ¬ (a ≤ b) → W p l e R s m args below meth c H locs cells slots Q (F0 m (pc + 3) ls rest)) : W p l e R s m args below meth c H locs cells slots Q (F0 m pc ls (.int (jI b) :: .int (jI a) :: rest)) := lv_icmp_le X.1 X.2.1 hdg ht (fun h => kt ((jI_le h1 h2 h3 h4).mp h)) (fun h => kf (fun q => h ((jI_le h1 h2 h3 h4).mpr q)))
theorem cx_if_le (X : CallFix p m c cc nL s args GW own) {a : Int} {off : Int} {tgt : Nat} (h1 : -2147483648 ≤ a) (h2 : a ≤ 2147483647) (hdg : decode cc pc = .ok (.ifCond .le off, 3)) (ht : (pc : Int) + off = (tgt : Int)) (kt : a ≤ 0 → W p l e R s m args below meth c H locs cells slots Q (F0 m tgt ls rest)) (kf : ¬ (a ≤ 0) → W p l e R s m args below meth c H locs cells slots Q (F0 m (pc + 3) ls rest)) : W p l e R s m args below meth c H locs cells slots Q (F0 m pc ls (.int (jI a) :: rest)) := lv_if_le X.1 X.2.1 hdg ht (fun h => kt ((jI_le h1 h2 (by omega) (by omega)).mp (by rw [jI_0]; exact h))) (fun h => kf (fun q => h (by have h9 := (jI_le h1 h2 (by omega) (by omega)).mpr q; rw [jI_0] at h9; exact h9)))
theorem cx_lcmp_eq (X : CallFix p m c cc nL s args GW own) {a b : Int} {off : Int} {tgt : Nat} (h1 : -9223372036854775808 ≤ a) (h2 : a ≤ 9223372036854775807) (h3 : -9223372036854775808 ≤ b) (h4 : b ≤ 9223372036854775807) (hdl : decode cc pc = .ok (.lcmp, 1)) (hdg : decode cc (pc + 1) = .ok (.ifCond .eq off, 3)) (ht : ((pc + 1 : Nat) : Int) + off = (tgt : Int)) (kt : a = b → W p l e R s m args below meth c H locs cells slots Q (F0 m tgt ls rest)) (kf : ¬ (a = b) → W p l e R s m args below meth c H locs cells slots Q (F0 m (pc + 1 + 3) ls rest)) : W p l e R s m args below meth c H locs cells slots Q (F0 m pc ls (.long (jL b) :: .long (jL a) :: rest)) := W.lcmp X.1 X.2.1 hdl (lv_if_eq X.1 X.2.1 hdg ht (fun h => kt (((lg_cmp_eq _ _).trans (jL_eq h1 h2 h3 h4)).mp h)) (fun h => kf (fun q => h (((lg_cmp_eq _ _).trans (jL_eq h1 h2 h3 h4)).mpr q))))
theorem cx_lcmp_ne (X : CallFix p m c cc nL s args GW own) {a b : Int} {off : Int} {tgt : Nat} (h1 : -9223372036854775808 ≤ a) (h2 : a ≤ 9223372036854775807) (h3 : -9223372036854775808 ≤ b) (h4 : b ≤ 9223372036854775807) (hdl : decode cc pc = .ok (.lcmp, 1)) (hdg : decode cc (pc + 1) = .ok (.ifCond .ne off, 3)) (ht : ((pc + 1 : Nat) : Int) + off = (tgt : Int)) (kt : ¬ a = b → W p l e R s m args below meth c H locs cells slots Q (F0 m tgt ls rest)) (kf : a = b → W p l e R s m args below meth c H locs cells slots Q (F0 m (pc + 1 + 3) ls rest)) : W p l e R s m args below meth c H locs cells slots Q (F0 m pc ls (.long (jL b) :: .long (jL a) :: rest)) := W.lcmp X.1 X.2.1 hdl (lv_if_ne X.1 X.2.1 hdg ht (fun h => kt ((not_congr ((lg_cmp_eq _ _).trans (jL_eq h1 h2 h3 h4))).mp h)) (fun h => kf (((lg_cmp_eq _ _).trans (jL_eq h1 h2 h3 h4)).mp h)))
theorem cx_lcmp_lt (X : CallFix p m c cc nL s args GW own) {a b : Int} {off : Int} {tgt : Nat} (h1 : -9223372036854775808 ≤ a) (h2 : a ≤ 9223372036854775807) (h3 : -9223372036854775808 ≤ b) (h4 : b ≤ 9223372036854775807) (hdl : decode cc pc = .ok (.lcmp, 1)) (hdg : decode cc (pc + 1) = .ok (.ifCond .lt off, 3)) (ht : ((pc + 1 : Nat) : Int) + off = (tgt : Int)) (kt : a < b → W p l e R s m args below meth c H locs cells slots Q (F0 m tgt ls rest)) (kf : ¬ (a < b) → W p l e R s m args below meth c H locs cells slots Q (F0 m (pc + 1 + 3) ls rest)) : W p l e R s m args below meth c H locs cells slots Q (F0 m pc ls (.long (jL b) :: .long (jL a) :: rest)) := W.lcmp X.1 X.2.1 hdl (lv_if_lt X.1 X.2.1 hdg ht (fun h => kt (((lg_cmp_lt _ _).trans (jL_lt h1 h2 h3 h4)).mp h)) (fun h => kf (fun q => h (((lg_cmp_lt _ _).trans (jL_lt h1 h2 h3 h4)).mpr q))))
theorem cx_lcmp_ge (X : CallFix p m c cc nL s args GW own) {a b : Int} {off : Int} {tgt : Nat} (h1 : -9223372036854775808 ≤ a) (h2 : a ≤ 9223372036854775807) (h3 : -9223372036854775808 ≤ b) (h4 : b ≤ 9223372036854775807) (hdl : decode cc pc = .ok (.lcmp, 1)) (hdg : decode cc (pc + 1) = .ok (.ifCond .ge off, 3)) (ht : ((pc + 1 : Nat) : Int) + off = (tgt : Int)) (kt : b ≤ a → W p l e R s m args below meth c H locs cells slots Q (F0 m tgt ls rest)) (kf : ¬ (b ≤ a) → W p l e R s m args below meth c H locs cells slots Q (F0 m (pc + 1 + 3) ls rest)) : W p l e R s m args below meth c H locs cells slots Q (F0 m pc ls (.long (jL b) :: .long (jL a) :: rest)) := W.lcmp X.1 X.2.1 hdl (lv_if_ge X.1 X.2.1 hdg ht (fun h => kt (((lg_cmp_ge _ _).trans (jL_le h3 h4 h1 h2)).mp h)) (fun h => kf (fun q => h (((lg_cmp_ge _ _).trans (jL_le h3 h4 h1 h2)).mpr q))))
theorem cx_lcmp_gt (X : CallFix p m c cc nL s args GW own) {a b : Int} {off : Int} {tgt : Nat} (h1 : -9223372036854775808 ≤ a) (h2 : a ≤ 9223372036854775807) (h3 : -9223372036854775808 ≤ b) (h4 : b ≤ 9223372036854775807) (hdl : decode cc pc = .ok (.lcmp, 1)) (hdg : decode cc (pc + 1) = .ok (.ifCond .gt off, 3)) (ht : ((pc + 1 : Nat) : Int) + off = (tgt : Int)) (kt : b < a → W p l e R s m args below meth c H locs cells slots Q (F0 m tgt ls rest)) (kf : ¬ (b < a) → W p l e R s m args below meth c H locs cells slots Q (F0 m (pc + 1 + 3) ls rest)) : W p l e R s m args below meth c H locs cells slots Q (F0 m pc ls (.long (jL b) :: .long (jL a) :: rest)) := W.lcmp X.1 X.2.1 hdl (lv_if_gt X.1 X.2.1 hdg ht (fun h => kt (((lg_cmp_gt _ _).trans (jL_lt h3 h4 h1 h2)).mp h)) (fun h => kf (fun q => h (((lg_cmp_gt _ _).trans (jL_lt h3 h4 h1 h2)).mpr q))))
theorem cx_lcmp_le (X : CallFix p m c cc nL s args GW own) {a b : Int} {off : Int} {tgt : Nat} (h1 : -9223372036854775808 ≤ a) (h2 : a ≤ 9223372036854775807) (h3 : -9223372036854775808 ≤ b) (h4 : b ≤ 9223372036854775807) (hdl : decode cc pc = .ok (.lcmp, 1)) (hdg : decode cc (pc + 1) = .ok (.ifCond .le off, 3)) (ht : ((pc + 1 : Nat) : Int) + off = (tgt : Int)) (kt : a ≤ b → W p l e R s m args below meth c H locs cells slots Q (F0 m tgt ls rest)) (kf : ¬ (a ≤ b) → W p l e R s m args below meth c H locs cells slots Q (F0 m (pc + 1 + 3) ls rest)) : W p l e R s m args below meth c H locs cells slots Q (F0 m pc ls (.long (jL b) :: .long (jL a) :: rest)) := W.lcmp X.1 X.2.1 hdl (lv_if_le X.1 X.2.1 hdg ht (fun h => kt (((lg_cmp_le _ _).trans (jL_le h1 h2 h3 h4)).mp h)) (fun h => kf (fun q => h (((lg_cmp_le _ _).trans (jL_le h1 h2 h3 h4)).mpr q))))
theorem cx_ifeqB (X : CallFix p m c cc nL s args GW own) {P : Prop} {off : Int} {tgt : Nat} (hdg : decode cc pc = .ok (.ifCond .eq off, 3)) (ht : (pc : Int) + off = (tgt : Int)) (kt : ¬ P → W p l e R s m args below meth c H locs cells slots Q (F0 m tgt ls rest)) (kf : P → W p l e R s m args below meth c H locs cells slots Q (F0 m (pc + 3) ls rest)) : W p l e R s m args below meth c H locs cells slots Q (F0 m pc ls (.int (jI (jB P)) :: rest)) := by
  have hr := jB_r P
  refine cx_if_eq X (by omega) (by omega) hdg ht (fun h => kt (fun q => ?_)) (fun h => ?_)
  · rw [jB_t q] at h; omega
  · by_cases q : P
    · exact kf q
    · exact absurd (jB_f q) h
theorem cx_ifneB (X : CallFix p m c cc nL s args GW own) {P : Prop} {off : Int} {tgt : Nat} (hdg : decode cc pc = .ok (.ifCond .ne off, 3)) (ht : (pc : Int) + off = (tgt : Int)) (kt : P → W p l e R s m args below meth c H locs cells slots Q (F0 m tgt ls rest)) (kf : ¬ P → W p l e R s m args below meth c H locs cells slots Q (F0 m (pc + 3) ls rest)) : W p l e R s m args below meth c H locs cells slots Q (F0 m pc ls (.int (jI (jB P)) :: rest)) := by
  have hr := jB_r P
  refine cx_if_ne X (by omega) (by omega) hdg ht (fun h => ?_) (fun h => kf (fun q => ?_))
  · by_cases q : P
    · exact kt q
    · exact absurd (jB_f q) h
  · rw [jB_t q] at h; omega
variable {u : cx_U} {A : Nat → Prop} {w : cx_W} {a : Nat}
theorem cx_get (X : CallFix p m c cc nL s args GW own) (B : cx_B u A w s H locs) {C : String} {T : u_T} {N ci index k i : Nat} {fs : List Value} {v : Value} (he : w k i = some (a, .inr (ci, fs))) (hc : vw_cl[ci]? = some (C, T, N)) (hin : ∀ x ∈ u_ws C T N, x ∈ GW) (f : Nat) (hk : f < N) (hl : Cond.fieldLink own index (T f).1 (T f).2.1 (T f).2.2.1 ∈ GW) (hv : fs[f]? = some v) (hdg : decode cc pc = .ok (.getfield index, 3))
    (kk : W p l e R s m args below meth c H locs cells slots Q (F0 m (pc + 3) ls (v :: rest))) : W p l e R s m args below meth c H locs cells slots Q (F0 m pc ls (.ref a :: rest)) :=
  va_get (ref := (T f).1) X.1 X.2.1 X.2.2.2.2 hin X.2.2.2.1 B.1 (B.2.1.one he) 0 rfl hc f hk (X.2.2.2.2 _ hl) (fun _ h => h) hv hdg kk
theorem cx_put (X : CallFix p m c cc nL s args GW own) (B : cx_B u A w s H locs) {C : String} {T : u_T} {N ci index k i : Nat} {fs : List Value} {v : Value} {ty : FieldType} (he : w k i = some (a, .inr (ci, fs))) (hc : vw_cl[ci]? = some (C, T, N)) (hin : ∀ x ∈ u_ws C T N, x ∈ GW) (ty0 : Nat → FieldType) (hty : ∀ k, k < N → parseFieldDescriptor (T k).2.2.1 = some (ty0 k)) (hnm : ∀ a, a < N → ∀ b, b < N → a ≠ b → (T a).2.1 ≠ (T b).2.1) (f : Nat) (hk : f < N) (hl : Cond.fieldLink own index (T f).1 (T f).2.1 (T f).2.2.1 ∈ GW) (hfin : (T f).2.2.2 = false) (hd : parseFieldDescriptor (T f).2.2.1 = some ty) (hn : narrow ty v = v) (hfit : fits ty v = true) (hln : f < fs.length) (hdg : decode cc pc = .ok (.putfield index, 3))
    (kk : ∀ (H : Heap) (locs : List Loc), cx_B u A (cx_up w k i (a, .inr (ci, fs.set f v))) s H locs → W p l e R s m args below meth c H locs cells slots Q (F0 m (pc + 3) ls rest)) : W p l e R s m args below meth c H locs cells slots Q (F0 m pc ls (v :: .ref a :: rest)) := by
  obtain ⟨hK, hP, hD, hS0, hA, hE⟩ := B
  have hts := X.2.2.2.2
  have hap := va_apart (own := own) hts hin ty0 hty hnm hK hc
  obtain ⟨r, h1, cell, q1, q2, q3, q4⟩ := hP k i _ he
  have hr : r = (C, T, N) := Option.some.inj (h1.symm.trans hc)
  subst hr
  obtain ⟨hS, hfc, kC, hkC, hkind⟩ := hK.1 ci _ hc
  obtain ⟨cf, kf, fi, fd, hi, hsl⟩ := hS f hk
  have hlay := hts _ (hin _ (u_in_lay hk))
  unfold u_lay at hlay
  rw [if_neg (by rw [hfin]; decide)] at hlay
  have hst := (u_facts hfc hkC (u_lays hts hin hk) hi).1
  have h6 := u_store hfc hkC hkind hlay hi hd hn hfit
  refine W.putK X.1 X.2.1 (f := fd) ⟨X.2.2.2.1, hts _ hl, ⟨_, _, _, hi⟩, hst⟩ (by rw [q2]; exact h6) q1 q3 (by rw [hsl]; exact k2_hasslot (q4 f hk)) rfl rfl hdg fun H' e1 e2 e3 => ?_
  rw [hsl] at e1 ⊢
  exact kk H' _ ⟨hK, hP.set hD he ⟨_, hc, t_OB.to (V := updV (vp_V fs) f v) ⟨_, e1, q2, q3, t_set q4 hap hk v⟩ (fun j _ => vp_updV_set hln v j)⟩ e3, hD.set he, hS0.put e2 e3 (hD.2 k i _ he), hA, hE⟩
theorem cx_putF (X : CallFix p m c cc nL s args GW own) (B : cx_B u A w s H locs) {C : String} {T : u_T} {N ci index k i : Nat} {fs : List Value} {v : Value} {ty : FieldType} (he : w k i = some (a, .inr (ci, fs))) (hc : vw_cl[ci]? = some (C, T, N)) (hin : ∀ x ∈ u_ws C T N, x ∈ GW) (ty0 : Nat → FieldType) (hty : ∀ k, k < N → parseFieldDescriptor (T k).2.2.1 = some (ty0 k)) (hnm : ∀ a, a < N → ∀ b, b < N → a ≠ b → (T a).2.1 ≠ (T b).2.1) (f : Nat) (hk : f < N) (hl : Cond.fieldLink own index (T f).1 (T f).2.1 (T f).2.2.1 ∈ GW) (hfin : (T f).2.2.2 = true) (hin2 : meth.name = "<init>") (hdecl : (T f).1 = own) (hd : parseFieldDescriptor (T f).2.2.1 = some ty) (hn : narrow ty v = v) (hfit : fits ty v = true) (hln : f < fs.length) (hdg : decode cc pc = .ok (.putfield index, 3))
    (kk : ∀ (H : Heap) (locs : List Loc), cx_B u A (cx_up w k i (a, .inr (ci, fs.set f v))) s H locs → W p l e R s m args below meth c H locs cells slots Q (F0 m (pc + 3) ls rest)) : W p l e R s m args below meth c H locs cells slots Q (F0 m pc ls (v :: .ref a :: rest)) := by
  obtain ⟨hK, hP, hD, hS0, hA, hE⟩ := B
  have hts := X.2.2.2.2
  have hap := va_apart (own := own) hts hin ty0 hty hnm hK hc
  obtain ⟨r, h1, cell, q1, q2, q3, q4⟩ := hP k i _ he
  have hr : r = (C, T, N) := Option.some.inj (h1.symm.trans hc)
  subst hr
  obtain ⟨hS, hfc, kC, hkC, hkind⟩ := hK.1 ci _ hc
  obtain ⟨cf, kf, fi, fd, hi, hsl⟩ := hS f hk
  have hlay := hts _ (hin _ (u_in_lay hk))
  unfold u_lay at hlay
  rw [if_pos hfin] at hlay
  have hst := (u_facts hfc hkC (u_lays hts hin hk) hi).1
  have hcf : m.cls = cf := by
    obtain ⟨_, _, c', _, _, _, -, -, hf', -, -, -, hown2, -⟩ := Cond.laysFinal_spec hlay
    have e1 : c' = cf := by have := hi.symm.trans hf'; simp at this; exact this.1.symm
    rw [hdecl] at hown2
    rw [← e1]; exact Option.some.inj (X.2.2.2.1.symm.trans hown2)
  have h6 := u_fits hfc hkC hkind (Or.inr hlay) hi hd hn hfit
  refine W.putFinK X.1 X.2.1 X.2.2.2.1 (hts _ hl) hi hst hcf hin2 (by rw [q2]; exact h6) q1 q3 (by rw [hsl]; exact k2_hasslot (q4 f hk)) rfl rfl hdg fun H' e1 e2 e3 => ?_
  rw [hsl] at e1 ⊢
  exact kk H' _ ⟨hK, hP.set hD he ⟨_, hc, t_OB.to (V := updV (vp_V fs) f v) ⟨_, e1, q2, q3, t_set q4 hap hk v⟩ (fun j _ => vp_updV_set hln v j)⟩ e3, hD.set he, hS0.put e2 e3 (hD.2 k i _ he), hA, hE⟩
theorem cx_iald (X : CallFix p m c cc nL s args GW own) (B : cx_B u A w s H locs) {k i n : Nat} {f : Nat → Int} {j : Int} (he : w k i = some (a, .inl (u.2 0, n, .inl (fun x => jI (f x))))) (jn : Nat) (hj : j = jn) (h2 : jn < n) (h3 : n ≤ 2147483647) (hdg : decode cc pc = .ok (.iaload, 1)) (kk : W p l e R s m args below meth c H locs cells slots Q (F0 m (pc + 1) ls (.int (jI (f jn)) :: rest))) : W p l e R s m args below meth c H locs cells slots Q (F0 m pc ls (.int (jI j) :: .ref a :: rest)) :=
  va_iald X.1 X.2.1 B.1 (B.2.1.one he) 0 0 rfl rfl (jI_in (by omega) (by omega) h3) hdg (by rw [jI_c (by omega) (by omega), show j.toNat = jn by omega]; exact kk)
theorem cx_lald (X : CallFix p m c cc nL s args GW own) (B : cx_B u A w s H locs) {k i n : Nat} {f : Nat → Int} {j : Int} (he : w k i = some (a, .inl (u.2 1, n, .inr (.inl (fun x => jL (f x)))))) (jn : Nat) (hj : j = jn) (h2 : jn < n) (h3 : n ≤ 2147483647) (hdg : decode cc pc = .ok (.laload, 1)) (kk : W p l e R s m args below meth c H locs cells slots Q (F0 m (pc + 1) ls (.long (jL (f jn)) :: rest))) : W p l e R s m args below meth c H locs cells slots Q (F0 m pc ls (.int (jI j) :: .ref a :: rest)) :=
  va_lald X.1 X.2.1 B.1 (B.2.1.one he) 0 1 rfl rfl (jI_in (by omega) (by omega) h3) hdg (by rw [jI_c (by omega) (by omega), show j.toNat = jn by omega]; exact kk)
theorem cx_aald (X : CallFix p m c cc nL s args GW own) (B : cx_B u A w s H locs) {k i n : Nat} {f : Nat → Option Nat} {j : Int} (he : w k i = some (a, .inl (u.2 3, n, .inr (.inr (.inr (.inr f)))))) (jn : Nat) (hj : j = jn) (h2 : jn < n) (h3 : n ≤ 2147483647) (hdg : decode cc pc = .ok (.aaload, 1)) (kk : W p l e R s m args below meth c H locs cells slots Q (F0 m (pc + 1) ls (va_rf (f jn) :: rest))) : W p l e R s m args below meth c H locs cells slots Q (F0 m pc ls (.int (jI j) :: .ref a :: rest)) :=
  va_aldq X.1 X.2.1 B.1 (B.2.1.one he) 0 3 rfl rfl (jI_in (by omega) (by omega) h3) hdg (by rw [jI_c (by omega) (by omega), show j.toNat = jn by omega]; exact kk)
theorem cx_alen (X : CallFix p m c cc nL s args GW own) (B : cx_B u A w s H locs) (t0 : Nat) {k i cA : Nat} {x : vp_A} {ty : FieldType} {n : Int} (he : w k i = some (a, .inl (cA, x))) (ht : (cx_ty u.2)[t0]? = some (cA, ty)) (hn : Int32.ofNat x.1 = jI n) (hdg : decode cc pc = .ok (.arraylength, 1)) (kk : W p l e R s m args below meth c H locs cells slots Q (F0 m (pc + 1) ls (.int (jI n) :: rest))) : W p l e R s m args below meth c H locs cells slots Q (F0 m pc ls (.ref a :: rest)) :=
  va_alen X.1 X.2.1 B.1 (B.2.1.one he) 0 t0 rfl ht hn hdg kk
theorem cx_zald (X : CallFix p m c cc nL s args GW own) (B : cx_B u A w s H locs) {k i n : Nat} {f : Nat → Int} {j : Int} (he : w k i = some (a, .inl (u.2 2, n, .inl (fun x => jI (f x))))) (jn : Nat) (hj : j = jn) (h2 : jn < n) (h3 : n ≤ 2147483647) (hdg : decode cc pc = .ok (.baload, 1)) (kk : W p l e R s m args below meth c H locs cells slots Q (F0 m (pc + 1) ls (.int (jI (f jn)) :: rest))) : W p l e R s m args below meth c H locs cells slots Q (F0 m pc ls (.int (jI j) :: .ref a :: rest)) :=
  va_zald X.1 X.2.1 B.1 (B.2.1.one he) 0 2 rfl rfl (jI_in (by omega) (by omega) h3) hdg (by rw [jI_c (by omega) (by omega), show j.toNat = jn by omega]; exact kk)
theorem cx_zast (X : CallFix p m c cc nL s args GW own) (B : cx_B u A w s H locs) {k i n : Nat} {f : Nat → Int} {j x0 : Int} (he : w k i = some (a, .inl (u.2 2, n, .inl (fun x => jI (f x))))) (jn : Nat) (hj : j = jn) (h2 : jn < n) (h3 : n ≤ 2147483647) (h4 : 0 ≤ x0) (h5 : x0 ≤ 1) (hdg : decode cc pc = .ok (.bastore, 1))
    (kk : ∀ (H : Heap) (locs : List Loc), cx_B u A (cx_up w k i (a, .inl (u.2 2, n, .inl (fun x => jI (va_up f jn x0 x))))) s H locs → W p l e R s m args below meth c H locs cells slots Q (F0 m (pc + 1) ls rest)) : W p l e R s m args below meth c H locs cells slots Q (F0 m pc ls (.int (jI x0) :: .int (jI j) :: .ref a :: rest)) := by
  obtain ⟨hK, hP, hD, hS, hA, hE⟩ := B
  have hin : vp_in (jI j) n := jI_in (by omega) (by omega) h3
  have hnr : narrow .boolean (.int (jI x0)) = .int (jI x0) := by rcases (show x0 = 0 ∨ x0 = 1 by omega) with rfl | rfl <;> decide +kernel
  refine W.zast X.1 X.2.1 (hP k i _ he) ((hK.2 2 (u.2 2, .boolean) rfl).1 n (fun y => .int (jI (f y)))) (fun q => by cases q) (by show ¬ (jI j < 0 ∨ (arrV _ _ _).slots.size ≤ _); rw [arrV_size]; exact hin) rfl rfl hdg fun H1 e1 z oq => ?_
  refine kk H1 _ ⟨hK, hP.set hD he ?_ oq, hD.set he, hS.put z oq (hD.2 k i _ he), hA, hE⟩
  show H1[a]? = some (vp_cell _ _)
  rw [e1, hnr, vp_cell_i, vp_cell_i, arrV_store, jI_c (by omega) (by omega), show j.toNat = jn by omega]
  congr 2
  funext q
  by_cases hq : q = jn
  · subst hq
    simp [updV, va_up]
  · simp [updV, va_up, hq]
theorem cx_iast (X : CallFix p m c cc nL s args GW own) (B : cx_B u A w s H locs) {k i n : Nat} {f : Nat → Int} {j x0 : Int} (he : w k i = some (a, .inl (u.2 0, n, .inl (fun x => jI (f x))))) (jn : Nat) (hj : j = jn) (h2 : jn < n) (h3 : n ≤ 2147483647) (hdg : decode cc pc = .ok (.iastore, 1))
    (kk : ∀ (H : Heap) (locs : List Loc), cx_B u A (cx_up w k i (a, .inl (u.2 0, n, .inl (fun x => jI (va_up f jn x0 x))))) s H locs → W p l e R s m args below meth c H locs cells slots Q (F0 m (pc + 1) ls rest)) : W p l e R s m args below meth c H locs cells slots Q (F0 m pc ls (.int (jI x0) :: .int (jI j) :: .ref a :: rest)) := by
  obtain ⟨hK, hP, hD, hS, hA, hE⟩ := B
  have hin : vp_in (jI j) n := jI_in (by omega) (by omega) h3
  refine W.iast X.1 X.2.1 (hP k i _ he) ((hK.2 0 (u.2 0, .int) rfl).1 n (fun y => .int (jI (f y)))) (fun q => by cases q) (by show ¬ (jI j < 0 ∨ (arrV _ _ _).slots.size ≤ _); rw [arrV_size]; exact hin) rfl rfl hdg fun H1 e1 z oq => ?_
  refine kk H1 _ ⟨hK, hP.set hD he ?_ oq, hD.set he, hS.put z oq (hD.2 k i _ he), hA, hE⟩
  show H1[a]? = some (vp_cell _ _)
  rw [e1, vp_cell_i, vp_cell_i, arrV_store, jI_c (by omega) (by omega), show j.toNat = jn by omega]
  congr 2
  funext q
  by_cases hq : q = jn
  · subst hq
    simp [updV, va_up]
  · simp [updV, va_up, hq]
theorem cx_last (X : CallFix p m c cc nL s args GW own) (B : cx_B u A w s H locs) {k i n : Nat} {f : Nat → Int} {j x0 : Int} (he : w k i = some (a, .inl (u.2 1, n, .inr (.inl (fun x => jL (f x)))))) (jn : Nat) (hj : j = jn) (h2 : jn < n) (h3 : n ≤ 2147483647) (hdg : decode cc pc = .ok (.lastore, 1))
    (kk : ∀ (H : Heap) (locs : List Loc), cx_B u A (cx_up w k i (a, .inl (u.2 1, n, .inr (.inl (fun x => jL (va_up f jn x0 x)))))) s H locs → W p l e R s m args below meth c H locs cells slots Q (F0 m (pc + 1) ls rest)) : W p l e R s m args below meth c H locs cells slots Q (F0 m pc ls (.long (jL x0) :: .int (jI j) :: .ref a :: rest)) := by
  obtain ⟨hK, hP, hD, hS, hA, hE⟩ := B
  have hin : vp_in (jI j) n := jI_in (by omega) (by omega) h3
  refine W.last X.1 X.2.1 (hP k i _ he) ((hK.2 1 (u.2 1, .long) rfl).1 n (fun y => .long (jL (f y)))) (fun q => by cases q) (by show ¬ (jI j < 0 ∨ (arrV _ _ _).slots.size ≤ _); rw [arrV_size]; exact hin) rfl rfl hdg fun H1 e1 z oq => ?_
  refine kk H1 _ ⟨hK, hP.set hD he ?_ oq, hD.set he, hS.put z oq (hD.2 k i _ he), hA, hE⟩
  show H1[a]? = some (vp_cell _ _)
  rw [e1, vp_cell_l, vp_cell_l, arrV_store, jI_c (by omega) (by omega), show j.toNat = jn by omega]
  congr 2
  funext q
  by_cases hq : q = jn
  · subst hq
    simp [updV, va_up]
  · simp [updV, va_up, hq]
theorem cx_aast (X : CallFix p m c cc nL s args GW own) (B : cx_B u A w s H locs) {k i k2 i2 n v : Nat} {vs : List Value} {f : Nat → Option Nat} {j : Int} (he : w k i = some (a, .inl (u.2 3, n, .inr (.inr (.inr (.inr f)))))) (hv : w k2 i2 = some (v, .inr (2, vs))) (jn : Nat) (hj : j = jn) (h2 : jn < n) (h3 : n ≤ 2147483647) (hdg : decode cc pc = .ok (.aastore, 1))
    (kk : ∀ (H : Heap) (locs : List Loc), cx_B u A (cx_up w k i (a, .inl (u.2 3, n, .inr (.inr (.inr (.inr (va_up f jn (some v)))))))) s H locs → W p l e R s m args below meth c H locs cells slots Q (F0 m (pc + 1) ls rest)) : W p l e R s m args below meth c H locs cells slots Q (F0 m pc ls (.ref v :: .int (jI j) :: .ref a :: rest)) := by
  obtain ⟨hK, hP, hD, hS, hA, hE⟩ := B
  have hlt : (jI j).toNatClampNeg < n := by rw [jI_c (by omega) (by omega)]; omega
  have h0 : ¬ jI j < 0 := by rw [← jI_0, jI_lt (by omega) (by omega) (by omega) (by omega)]; omega
  obtain ⟨-, kA, comp, g1, g2, g3, g4⟩ := hK.2 3 (u.2 3, .object "CatchShares$Stock") rfl
  obtain ⟨r', h5, cell, c1, c2, c3, -⟩ := hP k2 i2 _ hv
  obtain ⟨-, hfc, kC, hkC, hkind⟩ := hK.1 2 (na_S, fT_S, 11) rfl
  have hce : comp = u.1.1 2 := Option.some.inj (g3.symm.trans hfc)
  subst hce
  refine W.aast X.1 X.2.1 (hP k i _ he) (fun q h => by cases h) (fun h => by cases h) (k := kA) (by exact g1) g2 rfl hkC ⟨h0, by show _ < (arrV _ _ _).slots.size; rw [arrV_size]; exact hlt⟩ c1 (fun q h => by rw [c3] at h; cases h) (by rw [c2]; exact hkC) (by rw [c2]; exact va_assign ⟨hfc, kC, hkC, hkind⟩) rfl rfl hdg fun H1 e1 z oq => ?_
  refine kk H1 _ ⟨hK, hP.set hD he ?_ oq, hD.set he, hS.put z oq (hD.2 k i _ he), hA, hE⟩
  show H1[a]? = some (vp_cell _ _)
  rw [e1, vp_cell_q, vp_cell_q, arrV_store, jI_c (by omega) (by omega), show j.toNat = jn by omega]
  congr 2
  funext q
  by_cases hq : q = jn
  · subst hq
    simp [updV, va_up, va_rf]
  · simp [updV, va_up, hq]
theorem cx_new (X : CallFix p m c cc nL s args GW own) (B : cx_B u A w s H locs) {C : String} {T : u_T} {N ci index : Nat} (k i : Nat) {fs : List Value} (hin : ∀ x ∈ u_ws C T N, x ∈ GW) (ty : Nat → FieldType) (hty : ∀ k, k < N → parseFieldDescriptor (T k).2.2.1 = some (ty k)) (hl : Cond.classLink own index C ∈ GW) (hins : Cond.instantiable C N ∈ GW) (hini : Cond.initialized C ∈ GW) (hc : vw_cl[ci]? = some (C, T, N)) (hfs : ∀ j, j < N → defaultValue (ty j) = vp_V fs j) (hcells : cells + 1 ≤ R.cells) (hslots : slots + N ≤ R.slots) (hdg : decode cc pc = .ok (.new index, 3))
    (kk : ∀ (q : Nat) (H1 : Heap), cx_B u A (cx_up w k i (q, .inr (ci, fs))) s H1 locs → W p l e R s m args below meth c H1 locs (cells + 1) (slots + N) Q (F0 m (pc + 3) ls (.ref q :: rest))) : W p l e R s m args below meth c H locs cells slots Q (F0 m pc ls rest) := by
  obtain ⟨hK, hP, hD, hS, hA, hE⟩ := B
  have hts := X.2.2.2.2
  have hKn := hK.1 ci _ hc
  refine W.newcK X.1 X.2.1 X.2.2.2.1 (hts _ hl) (hts _ hins) (hts _ hini) rfl hdg hcells hslots hKn.2.1 rfl fun H1 kC hkC e1 z1 o1 => ?_
  refine kk H.size H1 ⟨hK, fun k' i' x hx => ?_, hD.push hP rfl (hA _ hS.1), ⟨Nat.le_trans hS.1 (by omega), fun x h1 h2 => (o1 x (Nat.lt_of_lt_of_le h1 hS.1)).trans (hS.2.1 x h1 h2), hS.2.2⟩, hA, hE⟩
  by_cases hk : k' = k ∧ i' = i
  · obtain ⟨rfl, rfl⟩ := hk
    rw [cx_up_s] at hx
    cases hx
    exact ⟨_, hc, (u_born ty hts hin hKn hkC e1 hty).to hfs⟩
  · rw [cx_up_n w _ hk] at hx
    exact (hP k' i' x hx).kept (o1 x.1 ((hP k' i' x hx).lt))
theorem cx_newI (X : CallFix p m c cc nL s args GW own) (B : cx_B u A w s H locs) (k i : Nat) {atype : ArrayType} (hty : newarray.typeOf atype = .int) (harr : Cond.arrayClass .int ∈ GW) {n : Int} {N' : Nat} (h1 : 0 ≤ n) (h2 : n ≤ 1000000) (hN : n = N') (hcells : cells + 1 ≤ R.cells) (hslots : slots + N' ≤ R.slots) (hdg : decode cc pc = .ok (.newarray atype, 2))
    (kk : ∀ (q : Nat) (H1 : Heap), cx_B u A (cx_up w k i (q, .inl (u.2 0, N', .inl (fun _ => jI 0)))) s H1 locs → W p l e R s m args below meth c H1 locs (cells + 1) (slots + N') Q (F0 m (pc + 2) ls (.ref q :: rest))) : W p l e R s m args below meth c H locs cells slots Q (F0 m pc ls (.int (jI n) :: rest)) := by
  obtain ⟨hK, hP, hD, hS, hA, hE⟩ := B
  have h0 : ¬ jI n < 0 := by rw [← jI_0, jI_lt (by omega) (by omega) (by omega) (by omega)]; omega
  refine va_newaK X.1 X.2.1 (by rw [hty]; exact X.2.2.2.2 _ harr) rfl hdg rfl h0 (N := N') (by rw [jI_c h1 (by omega)]; omega) (by rw [hty]; show N' * _ ≤ _; simp only [componentBytes]; omega) hcells hslots rfl fun H1 cA' e1 z1 o1 hAr hNm => ?_
  have hc : cA' = u.2 0 := by
    have h9 := (hK.2 0 (u.2 0, .int) rfl).2
    rw [hty] at hNm
    exact Option.some.inj (hNm.symm.trans h9)
  subst hc
  refine kk H.size H1 ⟨hK, fun k' i' x hx => ?_, hD.push hP rfl (hA _ hS.1), ⟨Nat.le_trans hS.1 (by omega), fun x h1 h2 => (o1 x (Nat.lt_of_lt_of_le h1 hS.1)).trans (hS.2.1 x h1 h2), hS.2.2⟩, hA, hE⟩
  by_cases hk : k' = k ∧ i' = i
  · obtain ⟨rfl, rfl⟩ := hk
    rw [cx_up_s] at hx
    cases hx
    show H1[H.size]? = some (vp_cell _ _)
    rw [e1, hty, vp_cell_i]
    rfl
  · rw [cx_up_n w _ hk] at hx
    exact (hP k' i' x hx).kept (o1 x.1 ((hP k' i' x hx).lt))
theorem cx_newL (X : CallFix p m c cc nL s args GW own) (B : cx_B u A w s H locs) (k i : Nat) {atype : ArrayType} (hty : newarray.typeOf atype = .long) (harr : Cond.arrayClass .long ∈ GW) {n : Int} {N' : Nat} (h1 : 0 ≤ n) (h2 : n ≤ 1000000) (hN : n = N') (hcells : cells + 1 ≤ R.cells) (hslots : slots + N' ≤ R.slots) (hdg : decode cc pc = .ok (.newarray atype, 2))
    (kk : ∀ (q : Nat) (H1 : Heap), cx_B u A (cx_up w k i (q, .inl (u.2 1, N', .inr (.inl (fun _ => jL 0))))) s H1 locs → W p l e R s m args below meth c H1 locs (cells + 1) (slots + N') Q (F0 m (pc + 2) ls (.ref q :: rest))) : W p l e R s m args below meth c H locs cells slots Q (F0 m pc ls (.int (jI n) :: rest)) := by
  obtain ⟨hK, hP, hD, hS, hA, hE⟩ := B
  have h0 : ¬ jI n < 0 := by rw [← jI_0, jI_lt (by omega) (by omega) (by omega) (by omega)]; omega
  refine va_newaK X.1 X.2.1 (by rw [hty]; exact X.2.2.2.2 _ harr) rfl hdg rfl h0 (N := N') (by rw [jI_c h1 (by omega)]; omega) (by rw [hty]; show N' * _ ≤ _; simp only [componentBytes]; omega) hcells hslots rfl fun H1 cA' e1 z1 o1 hAr hNm => ?_
  have hc : cA' = u.2 1 := by
    have h9 := (hK.2 1 (u.2 1, .long) rfl).2
    rw [hty] at hNm
    exact Option.some.inj (hNm.symm.trans h9)
  subst hc
  refine kk H.size H1 ⟨hK, fun k' i' x hx => ?_, hD.push hP rfl (hA _ hS.1), ⟨Nat.le_trans hS.1 (by omega), fun x h1 h2 => (o1 x (Nat.lt_of_lt_of_le h1 hS.1)).trans (hS.2.1 x h1 h2), hS.2.2⟩, hA, hE⟩
  by_cases hk : k' = k ∧ i' = i
  · obtain ⟨rfl, rfl⟩ := hk
    rw [cx_up_s] at hx
    cases hx
    show H1[H.size]? = some (vp_cell _ _)
    rw [e1, hty, vp_cell_l]
    rfl
  · rw [cx_up_n w _ hk] at hx
    exact (hP k' i' x hx).kept (o1 x.1 ((hP k' i' x hx).lt))
theorem cx_newZ (X : CallFix p m c cc nL s args GW own) (B : cx_B u A w s H locs) (k i : Nat) {atype : ArrayType} (hty : newarray.typeOf atype = .boolean) (harr : Cond.arrayClass .boolean ∈ GW) {n : Int} {N' : Nat} (h1 : 0 ≤ n) (h2 : n ≤ 1000000) (hN : n = N') (hcells : cells + 1 ≤ R.cells) (hslots : slots + N' ≤ R.slots) (hdg : decode cc pc = .ok (.newarray atype, 2))
    (kk : ∀ (q : Nat) (H1 : Heap), cx_B u A (cx_up w k i (q, .inl (u.2 2, N', .inl (fun _ => jI 0)))) s H1 locs → W p l e R s m args below meth c H1 locs (cells + 1) (slots + N') Q (F0 m (pc + 2) ls (.ref q :: rest))) : W p l e R s m args below meth c H locs cells slots Q (F0 m pc ls (.int (jI n) :: rest)) := by
  obtain ⟨hK, hP, hD, hS, hA, hE⟩ := B
  have h0 : ¬ jI n < 0 := by rw [← jI_0, jI_lt (by omega) (by omega) (by omega) (by omega)]; omega
  refine va_newaK X.1 X.2.1 (by rw [hty]; exact X.2.2.2.2 _ harr) rfl hdg rfl h0 (N := N') (by rw [jI_c h1 (by omega)]; omega) (by rw [hty]; show N' * _ ≤ _; simp only [componentBytes]; omega) hcells hslots rfl fun H1 cA' e1 z1 o1 hAr hNm => ?_
  have hc : cA' = u.2 2 := by
    have h9 := (hK.2 2 (u.2 2, .boolean) rfl).2
    rw [hty] at hNm
    exact Option.some.inj (hNm.symm.trans h9)
  subst hc
  refine kk H.size H1 ⟨hK, fun k' i' x hx => ?_, hD.push hP rfl (hA _ hS.1), ⟨Nat.le_trans hS.1 (by omega), fun x h1 h2 => (o1 x (Nat.lt_of_lt_of_le h1 hS.1)).trans (hS.2.1 x h1 h2), hS.2.2⟩, hA, hE⟩
  by_cases hk : k' = k ∧ i' = i
  · obtain ⟨rfl, rfl⟩ := hk
    rw [cx_up_s] at hx
    cases hx
    show H1[H.size]? = some (vp_cell _ _)
    rw [e1, hty, vp_cell_i]
    rfl
  · rw [cx_up_n w _ hk] at hx
    exact (hP k' i' x hx).kept (o1 x.1 ((hP k' i' x hx).lt))
theorem cx_newq (X : CallFix p m c cc nL s args GW own) (B : cx_B u A w s H locs) (k i : Nat) {index : Nat} (hl : Cond.classLink own index "CatchShares$Stock" ∈ GW) {n : Int} {N' : Nat} (h1 : 0 ≤ n) (h2 : n ≤ 1000000) (hN : n = N') (hcells : cells + 1 ≤ R.cells) (hslots : slots + N' ≤ R.slots) (hdg : decode cc pc = .ok (.anewarray index, 3))
    (kk : ∀ (q : Nat) (H1 : Heap), cx_B u A (cx_up w k i (q, .inl (u.2 3, N', .inr (.inr (.inr (.inr (fun _ => none))))))) s H1 locs → W p l e R s m args below meth c H1 locs (cells + 1) (slots + N') Q (F0 m (pc + 3) ls (.ref q :: rest))) : W p l e R s m args below meth c H locs cells slots Q (F0 m pc ls (.int (jI n) :: rest)) := by
  obtain ⟨hK, hP, hD, hS, hA, hE⟩ := B
  have h0 : ¬ jI n < 0 := by rw [← jI_0, jI_lt (by omega) (by omega) (by omega) (by omega)]; omega
  have hNc : (jI n).toNatClampNeg = N' := by rw [jI_c h1 (by omega)]; omega
  refine W.anew X.1 X.2.1 X.2.2.2.1 (X.2.2.2.2 _ hl) (va_AO.use hE.1) rfl hdg rfl h0 (by rw [hNc]; omega) hcells (by rw [hNc]; exact hslots) fun cA' kA comp f1 f2 f3 f4 => ?_
  rw [hNc]
  have hc : cA' = u.2 3 := by
    obtain ⟨kA2, comp2, g1, g2, g3, g4⟩ := (hK.2 3 (u.2 3, .object "CatchShares$Stock") rfl).2
    exact Option.some.inj (f1.symm.trans g4)
  subst hc
  generalize hH1 : H.push ({ cls := u.2 3, slots := Array.replicate N' .null, vm := .none } : Cell) = H1
  have z1 : H1.size = H.size + 1 := by rw [← hH1, Array.size_push]
  have e1 : H1[H.size]? = some (arrV (u.2 3) N' (fun _ => .null)) := by rw [← hH1, Array.getElem?_push_size, ← arrV_new]
  have o1 : ∀ q : Nat, q < H.size → H1[q]? = H[q]? := fun q hq => by rw [← hH1, Array.getElem?_push, if_neg (Nat.ne_of_lt hq)]
  refine kk H.size H1 ⟨hK, fun k' i' x hx => ?_, hD.push hP rfl (hA _ hS.1), ⟨Nat.le_trans hS.1 (by omega), fun x h1 h2 => (o1 x (Nat.lt_of_lt_of_le h1 hS.1)).trans (hS.2.1 x h1 h2), hS.2.2⟩, hA, hE⟩
  by_cases hk : k' = k ∧ i' = i
  · obtain ⟨rfl, rfl⟩ := hk
    rw [cx_up_s] at hx
    cases hx
    show H1[H.size]? = some (vp_cell _ _)
    rw [vp_cell_q]
    exact e1
  · rw [cx_up_n w _ hk] at hx
    exact (hP k' i' x hx).kept (o1 x.1 ((hP k' i' x hx).lt))
end CXR
