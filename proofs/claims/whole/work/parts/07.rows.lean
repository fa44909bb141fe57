section ZR
variable {M : zM} {rm : Room} {al : Bool} {mc ms : Nat} {scr : Option (Nat × (Nat → Int32))} {Q : Option Value → zH → Prop} {pc : Nat} {lv : List (Option Value)} {st : List Value} {h : zH} {ce sl : Nat}
theorem zj_iconst {n : Int} {v : Int32} (hd : decode M.2.1 pc = .ok (.iconst n, 1)) (hv : Int32.ofInt n = v) (k : zJ M rm al mc ms scr Q (pc + 1) (lv) (.int v :: st) h ce sl) : zJ M rm al mc ms scr Q (pc) (lv) (st) h ce sl := by
  intro p l e s m args below meth c D aC ρ H locs A Z ls X hl hP hD hS hZ
  exact lv_iconst X.1 X.2.1 hd hv (k p l e s m args below meth c D aC ρ H locs A Z ls X hl hP hD hS hZ)
theorem zj_bipush {n : Int} {v : Int32} (hd : decode M.2.1 pc = .ok (.bipush n, 2)) (hv : (Int8.ofInt n).toInt32 = v) (k : zJ M rm al mc ms scr Q (pc + 2) (lv) (.int v :: st) h ce sl) : zJ M rm al mc ms scr Q (pc) (lv) (st) h ce sl := by
  intro p l e s m args below meth c D aC ρ H locs A Z ls X hl hP hD hS hZ
  exact lv_bipush X.1 X.2.1 hd hv (k p l e s m args below meth c D aC ρ H locs A Z ls X hl hP hD hS hZ)
theorem zj_sipush {n : Int} {v : Int32} (hd : decode M.2.1 pc = .ok (.sipush n, 3)) (hv : (Int16.ofInt n).toInt32 = v) (k : zJ M rm al mc ms scr Q (pc + 3) (lv) (.int v :: st) h ce sl) : zJ M rm al mc ms scr Q (pc) (lv) (st) h ce sl := by
  intro p l e s m args below meth c D aC ρ H locs A Z ls X hl hP hD hS hZ
  exact lv_sipush X.1 X.2.1 hd hv (k p l e s m args below meth c D aC ρ H locs A Z ls X hl hP hD hS hZ)
theorem zj_ldc {i : Nat} {v : Int32} (hd : decode M.2.1 pc = .ok (.ldc i, 2)) (hw : Cond.constant M.1.cls i v ∈ zT) (k : zJ M rm al mc ms scr Q (pc + 2) (lv) (.int v :: st) h ce sl) : zJ M rm al mc ms scr Q (pc) (lv) (st) h ce sl := by
  intro p l e s m args below meth c D aC ρ H locs A Z ls X hl hP hD hS hZ
  exact lv_ldc X.1 X.2.1 X.2.2.2.1 (X.2.2.2.2.1 _ hw) hd (k p l e s m args below meth c D aC ρ H locs A Z ls X hl hP hD hS hZ)
theorem zj_ldc2 {i : Nat} {v : Int64} (hd : decode M.2.1 pc = .ok (.ldc2_w i, 3)) (hw : Cond.constantLong M.1.cls i v ∈ zT) (k : zJ M rm al mc ms scr Q (pc + 3) (lv) (.long v :: st) h ce sl) : zJ M rm al mc ms scr Q (pc) (lv) (st) h ce sl := by
  intro p l e s m args below meth c D aC ρ H locs A Z ls X hl hP hD hS hZ
  exact lv_ldc2 X.1 X.2.1 X.2.2.2.1 (X.2.2.2.2.1 _ hw) hd (k p l e s m args below meth c D aC ρ H locs A Z ls X hl hP hD hS hZ)
theorem zj_lconst {n : Fin 2} {v : Int64} (hd : decode M.2.1 pc = .ok (.lconst n, 1)) (hv : Int64.ofNat (n : Nat) = v) (k : zJ M rm al mc ms scr Q (pc + 1) (lv) (.long v :: st) h ce sl) : zJ M rm al mc ms scr Q (pc) (lv) (st) h ce sl := by
  intro p l e s m args below meth c D aC ρ H locs A Z ls X hl hP hD hS hZ
  exact lv_lconst X.1 X.2.1 hd hv (k p l e s m args below meth c D aC ρ H locs A Z ls X hl hP hD hS hZ)
theorem zj_null  (hd : decode M.2.1 pc = .ok (.aconst_null, 1))  (k : zJ M rm al mc ms scr Q (pc + 1) (lv) (.null :: st) h ce sl) : zJ M rm al mc ms scr Q (pc) (lv) (st) h ce sl := by
  intro p l e s m args below meth c D aC ρ H locs A Z ls X hl hP hD hS hZ
  exact lv_null X.1 X.2.1 hd (k p l e s m args below meth c D aC ρ H locs A Z ls X hl hP hD hS hZ)
theorem zj_iadd {x y : Int32} (hd : decode M.2.1 pc = .ok (.iadd, 1))  (k : zJ M rm al mc ms scr Q (pc + 1) (lv) (.int (x + y) :: st) h ce sl) : zJ M rm al mc ms scr Q (pc) (lv) (.int y :: .int x :: st) h ce sl := by
  intro p l e s m args below meth c D aC ρ H locs A Z ls X hl hP hD hS hZ
  exact lv_iadd X.1 X.2.1 hd (k p l e s m args below meth c D aC ρ H locs A Z ls X hl hP hD hS hZ)
theorem zj_isub {x y : Int32} (hd : decode M.2.1 pc = .ok (.isub, 1))  (k : zJ M rm al mc ms scr Q (pc + 1) (lv) (.int (x - y) :: st) h ce sl) : zJ M rm al mc ms scr Q (pc) (lv) (.int y :: .int x :: st) h ce sl := by
  intro p l e s m args below meth c D aC ρ H locs A Z ls X hl hP hD hS hZ
  exact lv_isub X.1 X.2.1 hd (k p l e s m args below meth c D aC ρ H locs A Z ls X hl hP hD hS hZ)
theorem zj_imul {x y : Int32} (hd : decode M.2.1 pc = .ok (.imul, 1))  (k : zJ M rm al mc ms scr Q (pc + 1) (lv) (.int (x * y) :: st) h ce sl) : zJ M rm al mc ms scr Q (pc) (lv) (.int y :: .int x :: st) h ce sl := by
  intro p l e s m args below meth c D aC ρ H locs A Z ls X hl hP hD hS hZ
  exact lv_imul X.1 X.2.1 hd (k p l e s m args below meth c D aC ρ H locs A Z ls X hl hP hD hS hZ)
theorem zj_iand {x y : Int32} (hd : decode M.2.1 pc = .ok (.iand, 1))  (k : zJ M rm al mc ms scr Q (pc + 1) (lv) (.int (x &&& y) :: st) h ce sl) : zJ M rm al mc ms scr Q (pc) (lv) (.int y :: .int x :: st) h ce sl := by
  intro p l e s m args below meth c D aC ρ H locs A Z ls X hl hP hD hS hZ
  exact lv_iand X.1 X.2.1 hd (k p l e s m args below meth c D aC ρ H locs A Z ls X hl hP hD hS hZ)
theorem zj_ixor {x y : Int32} (hd : decode M.2.1 pc = .ok (.ixor, 1))  (k : zJ M rm al mc ms scr Q (pc + 1) (lv) (.int (x ^^^ y) :: st) h ce sl) : zJ M rm al mc ms scr Q (pc) (lv) (.int y :: .int x :: st) h ce sl := by
  intro p l e s m args below meth c D aC ρ H locs A Z ls X hl hP hD hS hZ
  exact lv_ixor X.1 X.2.1 hd (k p l e s m args below meth c D aC ρ H locs A Z ls X hl hP hD hS hZ)
theorem zj_idiv {x y : Int32} (hd : decode M.2.1 pc = .ok (.idiv, 1)) (hne : ¬ y = 0) (k : zJ M rm al mc ms scr Q (pc + 1) (lv) (.int (x / y) :: st) h ce sl) : zJ M rm al mc ms scr Q (pc) (lv) (.int y :: .int x :: st) h ce sl := by
  intro p l e s m args below meth c D aC ρ H locs A Z ls X hl hP hD hS hZ
  exact lv_idiv X.1 X.2.1 hd hne (k p l e s m args below meth c D aC ρ H locs A Z ls X hl hP hD hS hZ)
theorem zj_irem {x y : Int32} (hd : decode M.2.1 pc = .ok (.irem, 1)) (hne : ¬ y = 0) (k : zJ M rm al mc ms scr Q (pc + 1) (lv) (.int (x - x / y * y) :: st) h ce sl) : zJ M rm al mc ms scr Q (pc) (lv) (.int y :: .int x :: st) h ce sl := by
  intro p l e s m args below meth c D aC ρ H locs A Z ls X hl hP hD hS hZ
  exact lv_irem X.1 X.2.1 hd hne (k p l e s m args below meth c D aC ρ H locs A Z ls X hl hP hD hS hZ)
theorem zj_ineg {x : Int32} (hd : decode M.2.1 pc = .ok (.ineg, 1))  (k : zJ M rm al mc ms scr Q (pc + 1) (lv) (.int (-x) :: st) h ce sl) : zJ M rm al mc ms scr Q (pc) (lv) (.int x :: st) h ce sl := by
  intro p l e s m args below meth c D aC ρ H locs A Z ls X hl hP hD hS hZ
  exact lv_ineg X.1 X.2.1 hd (k p l e s m args below meth c D aC ρ H locs A Z ls X hl hP hD hS hZ)
theorem zj_ishr {x y : Int32} (hd : decode M.2.1 pc = .ok (.ishr, 1))  (k : zJ M rm al mc ms scr Q (pc + 1) (lv) (.int (x >>> (y &&& 31)) :: st) h ce sl) : zJ M rm al mc ms scr Q (pc) (lv) (.int y :: .int x :: st) h ce sl := by
  intro p l e s m args below meth c D aC ρ H locs A Z ls X hl hP hD hS hZ
  exact lv_ishr X.1 X.2.1 hd (k p l e s m args below meth c D aC ρ H locs A Z ls X hl hP hD hS hZ)
theorem zj_i2l {x : Int32} (hd : decode M.2.1 pc = .ok (.i2l, 1))  (k : zJ M rm al mc ms scr Q (pc + 1) (lv) (.long x.toInt64 :: st) h ce sl) : zJ M rm al mc ms scr Q (pc) (lv) (.int x :: st) h ce sl := by
  intro p l e s m args below meth c D aC ρ H locs A Z ls X hl hP hD hS hZ
  exact lv_i2l X.1 X.2.1 hd rfl (k p l e s m args below meth c D aC ρ H locs A Z ls X hl hP hD hS hZ)
theorem zj_l2i {x : Int64} (hd : decode M.2.1 pc = .ok (.l2i, 1))  (k : zJ M rm al mc ms scr Q (pc + 1) (lv) (.int x.toInt32 :: st) h ce sl) : zJ M rm al mc ms scr Q (pc) (lv) (.long x :: st) h ce sl := by
  intro p l e s m args below meth c D aC ρ H locs A Z ls X hl hP hD hS hZ
  exact lv_l2i X.1 X.2.1 hd rfl (k p l e s m args below meth c D aC ρ H locs A Z ls X hl hP hD hS hZ)
theorem zj_i2b {x : Int32} (hd : decode M.2.1 pc = .ok (.i2b, 1))  (k : zJ M rm al mc ms scr Q (pc + 1) (lv) (.int x.toInt8.toInt32 :: st) h ce sl) : zJ M rm al mc ms scr Q (pc) (lv) (.int x :: st) h ce sl := by
  intro p l e s m args below meth c D aC ρ H locs A Z ls X hl hP hD hS hZ
  exact lv_i2b X.1 X.2.1 hd rfl (k p l e s m args below meth c D aC ρ H locs A Z ls X hl hP hD hS hZ)
theorem zj_ladd {x y : Int64} (hd : decode M.2.1 pc = .ok (.ladd, 1))  (k : zJ M rm al mc ms scr Q (pc + 1) (lv) (.long (x + y) :: st) h ce sl) : zJ M rm al mc ms scr Q (pc) (lv) (.long y :: .long x :: st) h ce sl := by
  intro p l e s m args below meth c D aC ρ H locs A Z ls X hl hP hD hS hZ
  exact lv_ladd X.1 X.2.1 hd (k p l e s m args below meth c D aC ρ H locs A Z ls X hl hP hD hS hZ)
theorem zj_lsub {x y : Int64} (hd : decode M.2.1 pc = .ok (.lsub, 1))  (k : zJ M rm al mc ms scr Q (pc + 1) (lv) (.long (x - y) :: st) h ce sl) : zJ M rm al mc ms scr Q (pc) (lv) (.long y :: .long x :: st) h ce sl := by
  intro p l e s m args below meth c D aC ρ H locs A Z ls X hl hP hD hS hZ
  exact lv_lsub X.1 X.2.1 hd (k p l e s m args below meth c D aC ρ H locs A Z ls X hl hP hD hS hZ)
theorem zj_lmul {x y : Int64} (hd : decode M.2.1 pc = .ok (.lmul, 1))  (k : zJ M rm al mc ms scr Q (pc + 1) (lv) (.long (x * y) :: st) h ce sl) : zJ M rm al mc ms scr Q (pc) (lv) (.long y :: .long x :: st) h ce sl := by
  intro p l e s m args below meth c D aC ρ H locs A Z ls X hl hP hD hS hZ
  exact lv_lmul X.1 X.2.1 hd (k p l e s m args below meth c D aC ρ H locs A Z ls X hl hP hD hS hZ)
theorem zj_lrem {x y : Int64} (hd : decode M.2.1 pc = .ok (.lrem, 1)) (hne : ¬ y = 0) (k : zJ M rm al mc ms scr Q (pc + 1) (lv) (.long (x - x / y * y) :: st) h ce sl) : zJ M rm al mc ms scr Q (pc) (lv) (.long y :: .long x :: st) h ce sl := by
  intro p l e s m args below meth c D aC ρ H locs A Z ls X hl hP hD hS hZ
  exact lv_lrem X.1 X.2.1 hd hne (k p l e s m args below meth c D aC ρ H locs A Z ls X hl hP hD hS hZ)
theorem zj_lcmp {x y : Int64} (hd : decode M.2.1 pc = .ok (.lcmp, 1))  (k : zJ M rm al mc ms scr Q (pc + 1) (lv) (.int (lg_cmp x y) :: st) h ce sl) : zJ M rm al mc ms scr Q (pc) (lv) (.long y :: .long x :: st) h ce sl := by
  intro p l e s m args below meth c D aC ρ H locs A Z ls X hl hP hD hS hZ
  exact W.lcmp X.1 X.2.1 hd (k p l e s m args below meth c D aC ρ H locs A Z ls X hl hP hD hS hZ)
theorem zj_dup {v : Value} (hd : decode M.2.1 pc = .ok (.dup, 1)) (hv : v.category = 1) (k : zJ M rm al mc ms scr Q (pc + 1) (lv) (v :: v :: st) h ce sl) : zJ M rm al mc ms scr Q (pc) (lv) (v :: st) h ce sl := by
  intro p l e s m args below meth c D aC ρ H locs A Z ls X hl hP hD hS hZ
  exact lv_dup X.1 X.2.1 hd (by rw [zV_cat]; exact hv) (k p l e s m args below meth c D aC ρ H locs A Z ls X hl hP hD hS hZ)
theorem zj_dup2 {v w : Value} (hd : decode M.2.1 pc = .ok (.dup2, 1)) (hv : v.category = 1) (hw : w.category = 1) (k : zJ M rm al mc ms scr Q (pc + 1) (lv) (v :: w :: v :: w :: st) h ce sl) : zJ M rm al mc ms scr Q (pc) (lv) (v :: w :: st) h ce sl := by
  intro p l e s m args below meth c D aC ρ H locs A Z ls X hl hP hD hS hZ
  exact lv_dup2_11 X.1 X.2.1 hd (by rw [zV_cat]; exact hv) (by rw [zV_cat]; exact hw) (k p l e s m args below meth c D aC ρ H locs A Z ls X hl hP hD hS hZ)
theorem zj_goto {off : Int} {tgt : Nat} (hd : decode M.2.1 pc = .ok (.goto off, 3)) (ht : (pc : Int) + off = (tgt : Int)) (k : zJ M rm al mc ms scr Q (tgt) (lv) (st) h ce sl) : zJ M rm al mc ms scr Q (pc) (lv) (st) h ce sl := by
  intro p l e s m args below meth c D aC ρ H locs A Z ls X hl hP hD hS hZ
  exact lv_goto X.1 X.2.1 hd ht (k p l e s m args below meth c D aC ρ H locs A Z ls X hl hP hD hS hZ)
theorem zj_icmp_eq {x y : Int32} {off : Int} {tgt : Nat} (hd : decode M.2.1 pc = .ok (.if_icmp .eq off, 3)) (ht : (pc : Int) + off = (tgt : Int)) (kt : x = y → zJ M rm al mc ms scr Q (tgt) (lv) (st) h ce sl) (kf : ¬ x = y → zJ M rm al mc ms scr Q (pc + 3) (lv) (st) h ce sl) : zJ M rm al mc ms scr Q (pc) (lv) (.int y :: .int x :: st) h ce sl := by
  intro p l e s m args below meth c D aC ρ H locs A Z ls X hl hP hD hS hZ
  exact lv_icmp_eq X.1 X.2.1 hd ht (fun q => (kt q p l e s m args below meth c D aC ρ H locs A Z ls X hl hP hD hS hZ)) (fun q => (kf q p l e s m args below meth c D aC ρ H locs A Z ls X hl hP hD hS hZ))
theorem zj_icmp_ne {x y : Int32} {off : Int} {tgt : Nat} (hd : decode M.2.1 pc = .ok (.if_icmp .ne off, 3)) (ht : (pc : Int) + off = (tgt : Int)) (kt : ¬ x = y → zJ M rm al mc ms scr Q (tgt) (lv) (st) h ce sl) (kf : x = y → zJ M rm al mc ms scr Q (pc + 3) (lv) (st) h ce sl) : zJ M rm al mc ms scr Q (pc) (lv) (.int y :: .int x :: st) h ce sl := by
  intro p l e s m args below meth c D aC ρ H locs A Z ls X hl hP hD hS hZ
  exact lv_icmp_ne X.1 X.2.1 hd ht (fun q => (kt q p l e s m args below meth c D aC ρ H locs A Z ls X hl hP hD hS hZ)) (fun q => (kf q p l e s m args below meth c D aC ρ H locs A Z ls X hl hP hD hS hZ))
theorem zj_icmp_lt {x y : Int32} {off : Int} {tgt : Nat} (hd : decode M.2.1 pc = .ok (.if_icmp .lt off, 3)) (ht : (pc : Int) + off = (tgt : Int)) (kt : x < y → zJ M rm al mc ms scr Q (tgt) (lv) (st) h ce sl) (kf : ¬ x < y → zJ M rm al mc ms scr Q (pc + 3) (lv) (st) h ce sl) : zJ M rm al mc ms scr Q (pc) (lv) (.int y :: .int x :: st) h ce sl := by
  intro p l e s m args below meth c D aC ρ H locs A Z ls X hl hP hD hS hZ
  exact lv_icmp_lt X.1 X.2.1 hd ht (fun q => (kt q p l e s m args below meth c D aC ρ H locs A Z ls X hl hP hD hS hZ)) (fun q => (kf q p l e s m args below meth c D aC ρ H locs A Z ls X hl hP hD hS hZ))
theorem zj_icmp_ge {x y : Int32} {off : Int} {tgt : Nat} (hd : decode M.2.1 pc = .ok (.if_icmp .ge off, 3)) (ht : (pc : Int) + off = (tgt : Int)) (kt : y ≤ x → zJ M rm al mc ms scr Q (tgt) (lv) (st) h ce sl) (kf : ¬ y ≤ x → zJ M rm al mc ms scr Q (pc + 3) (lv) (st) h ce sl) : zJ M rm al mc ms scr Q (pc) (lv) (.int y :: .int x :: st) h ce sl := by
  intro p l e s m args below meth c D aC ρ H locs A Z ls X hl hP hD hS hZ
  exact lv_icmp_ge X.1 X.2.1 hd ht (fun q => (kt q p l e s m args below meth c D aC ρ H locs A Z ls X hl hP hD hS hZ)) (fun q => (kf q p l e s m args below meth c D aC ρ H locs A Z ls X hl hP hD hS hZ))
theorem zj_icmp_gt {x y : Int32} {off : Int} {tgt : Nat} (hd : decode M.2.1 pc = .ok (.if_icmp .gt off, 3)) (ht : (pc : Int) + off = (tgt : Int)) (kt : y < x → zJ M rm al mc ms scr Q (tgt) (lv) (st) h ce sl) (kf : ¬ y < x → zJ M rm al mc ms scr Q (pc + 3) (lv) (st) h ce sl) : zJ M rm al mc ms scr Q (pc) (lv) (.int y :: .int x :: st) h ce sl := by
  intro p l e s m args below meth c D aC ρ H locs A Z ls X hl hP hD hS hZ
  exact lv_icmp_gt X.1 X.2.1 hd ht (fun q => (kt q p l e s m args below meth c D aC ρ H locs A Z ls X hl hP hD hS hZ)) (fun q => (kf q p l e s m args below meth c D aC ρ H locs A Z ls X hl hP hD hS hZ))
theorem zj_icmp_le {x y : Int32} {off : Int} {tgt : Nat} (hd : decode M.2.1 pc = .ok (.if_icmp .le off, 3)) (ht : (pc : Int) + off = (tgt : Int)) (kt : x ≤ y → zJ M rm al mc ms scr Q (tgt) (lv) (st) h ce sl) (kf : ¬ x ≤ y → zJ M rm al mc ms scr Q (pc + 3) (lv) (st) h ce sl) : zJ M rm al mc ms scr Q (pc) (lv) (.int y :: .int x :: st) h ce sl := by
  intro p l e s m args below meth c D aC ρ H locs A Z ls X hl hP hD hS hZ
  exact lv_icmp_le X.1 X.2.1 hd ht (fun q => (kt q p l e s m args below meth c D aC ρ H locs A Z ls X hl hP hD hS hZ)) (fun q => (kf q p l e s m args below meth c D aC ρ H locs A Z ls X hl hP hD hS hZ))
theorem zj_if_eq {x : Int32} {off : Int} {tgt : Nat} (hd : decode M.2.1 pc = .ok (.ifCond .eq off, 3)) (ht : (pc : Int) + off = (tgt : Int)) (kt : x = 0 → zJ M rm al mc ms scr Q (tgt) (lv) (st) h ce sl) (kf : ¬ x = 0 → zJ M rm al mc ms scr Q (pc + 3) (lv) (st) h ce sl) : zJ M rm al mc ms scr Q (pc) (lv) (.int x :: st) h ce sl := by
  intro p l e s m args below meth c D aC ρ H locs A Z ls X hl hP hD hS hZ
  exact lv_if_eq X.1 X.2.1 hd ht (fun q => (kt q p l e s m args below meth c D aC ρ H locs A Z ls X hl hP hD hS hZ)) (fun q => (kf q p l e s m args below meth c D aC ρ H locs A Z ls X hl hP hD hS hZ))
theorem zj_if_ne {x : Int32} {off : Int} {tgt : Nat} (hd : decode M.2.1 pc = .ok (.ifCond .ne off, 3)) (ht : (pc : Int) + off = (tgt : Int)) (kt : ¬ x = 0 → zJ M rm al mc ms scr Q (tgt) (lv) (st) h ce sl) (kf : x = 0 → zJ M rm al mc ms scr Q (pc + 3) (lv) (st) h ce sl) : zJ M rm al mc ms scr Q (pc) (lv) (.int x :: st) h ce sl := by
  intro p l e s m args below meth c D aC ρ H locs A Z ls X hl hP hD hS hZ
  exact lv_if_ne X.1 X.2.1 hd ht (fun q => (kt q p l e s m args below meth c D aC ρ H locs A Z ls X hl hP hD hS hZ)) (fun q => (kf q p l e s m args below meth c D aC ρ H locs A Z ls X hl hP hD hS hZ))
theorem zj_if_lt {x : Int32} {off : Int} {tgt : Nat} (hd : decode M.2.1 pc = .ok (.ifCond .lt off, 3)) (ht : (pc : Int) + off = (tgt : Int)) (kt : x < 0 → zJ M rm al mc ms scr Q (tgt) (lv) (st) h ce sl) (kf : ¬ x < 0 → zJ M rm al mc ms scr Q (pc + 3) (lv) (st) h ce sl) : zJ M rm al mc ms scr Q (pc) (lv) (.int x :: st) h ce sl := by
  intro p l e s m args below meth c D aC ρ H locs A Z ls X hl hP hD hS hZ
  exact lv_if_lt X.1 X.2.1 hd ht (fun q => (kt q p l e s m args below meth c D aC ρ H locs A Z ls X hl hP hD hS hZ)) (fun q => (kf q p l e s m args below meth c D aC ρ H locs A Z ls X hl hP hD hS hZ))
theorem zj_if_ge {x : Int32} {off : Int} {tgt : Nat} (hd : decode M.2.1 pc = .ok (.ifCond .ge off, 3)) (ht : (pc : Int) + off = (tgt : Int)) (kt : 0 ≤ x → zJ M rm al mc ms scr Q (tgt) (lv) (st) h ce sl) (kf : ¬ 0 ≤ x → zJ M rm al mc ms scr Q (pc + 3) (lv) (st) h ce sl) : zJ M rm al mc ms scr Q (pc) (lv) (.int x :: st) h ce sl := by
  intro p l e s m args below meth c D aC ρ H locs A Z ls X hl hP hD hS hZ
  exact lv_if_ge X.1 X.2.1 hd ht (fun q => (kt q p l e s m args below meth c D aC ρ H locs A Z ls X hl hP hD hS hZ)) (fun q => (kf q p l e s m args below meth c D aC ρ H locs A Z ls X hl hP hD hS hZ))
theorem zj_if_gt {x : Int32} {off : Int} {tgt : Nat} (hd : decode M.2.1 pc = .ok (.ifCond .gt off, 3)) (ht : (pc : Int) + off = (tgt : Int)) (kt : 0 < x → zJ M rm al mc ms scr Q (tgt) (lv) (st) h ce sl) (kf : ¬ 0 < x → zJ M rm al mc ms scr Q (pc + 3) (lv) (st) h ce sl) : zJ M rm al mc ms scr Q (pc) (lv) (.int x :: st) h ce sl := by
  intro p l e s m args below meth c D aC ρ H locs A Z ls X hl hP hD hS hZ
  exact lv_if_gt X.1 X.2.1 hd ht (fun q => (kt q p l e s m args below meth c D aC ρ H locs A Z ls X hl hP hD hS hZ)) (fun q => (kf q p l e s m args below meth c D aC ρ H locs A Z ls X hl hP hD hS hZ))
theorem zj_if_le {x : Int32} {off : Int} {tgt : Nat} (hd : decode M.2.1 pc = .ok (.ifCond .le off, 3)) (ht : (pc : Int) + off = (tgt : Int)) (kt : x ≤ 0 → zJ M rm al mc ms scr Q (tgt) (lv) (st) h ce sl) (kf : ¬ x ≤ 0 → zJ M rm al mc ms scr Q (pc + 3) (lv) (st) h ce sl) : zJ M rm al mc ms scr Q (pc) (lv) (.int x :: st) h ce sl := by
  intro p l e s m args below meth c D aC ρ H locs A Z ls X hl hP hD hS hZ
  exact lv_if_le X.1 X.2.1 hd ht (fun q => (kt q p l e s m args below meth c D aC ρ H locs A Z ls X hl hP hD hS hZ)) (fun q => (kf q p l e s m args below meth c D aC ρ H locs A Z ls X hl hP hD hS hZ))
theorem zj_ifnull {x : Nat} {off : Int} (hd : decode M.2.1 pc = .ok (.ifnull off, 3))  (k : zJ M rm al mc ms scr Q (pc + 3) (lv) (st) h ce sl) : zJ M rm al mc ms scr Q (pc) (lv) (.ref x :: st) h ce sl := by
  intro p l e s m args below meth c D aC ρ H locs A Z ls X hl hP hD hS hZ
  exact lv_ifnull X.1 X.2.1 hd (k p l e s m args below meth c D aC ρ H locs A Z ls X hl hP hD hS hZ)
theorem zj_ifnullN  {off : Int} (hd : decode M.2.1 pc = .ok (.ifnull off, 3)) {tgt : Nat} (ht : (pc : Int) + off = (tgt : Int)) (k : zJ M rm al mc ms scr Q (tgt) (lv) (st) h ce sl) : zJ M rm al mc ms scr Q (pc) (lv) (.null :: st) h ce sl := by
  intro p l e s m args below meth c D aC ρ H locs A Z ls X hl hP hD hS hZ
  exact lv_ifnullN X.1 X.2.1 hd ht (k p l e s m args below meth c D aC ρ H locs A Z ls X hl hP hD hS hZ)
theorem zj_ifnonnull {x : Nat} {off : Int} (hd : decode M.2.1 pc = .ok (.ifnonnull off, 3)) {tgt : Nat} (ht : (pc : Int) + off = (tgt : Int)) (k : zJ M rm al mc ms scr Q (tgt) (lv) (st) h ce sl) : zJ M rm al mc ms scr Q (pc) (lv) (.ref x :: st) h ce sl := by
  intro p l e s m args below meth c D aC ρ H locs A Z ls X hl hP hD hS hZ
  exact lv_ifnonnull X.1 X.2.1 hd ht (k p l e s m args below meth c D aC ρ H locs A Z ls X hl hP hD hS hZ)
theorem zj_ifnonnullN  {off : Int} (hd : decode M.2.1 pc = .ok (.ifnonnull off, 3))  (k : zJ M rm al mc ms scr Q (pc + 3) (lv) (st) h ce sl) : zJ M rm al mc ms scr Q (pc) (lv) (.null :: st) h ce sl := by
  intro p l e s m args below meth c D aC ρ H locs A Z ls X hl hP hD hS hZ
  exact lv_ifnonnullN X.1 X.2.1 hd (k p l e s m args below meth c D aC ρ H locs A Z ls X hl hP hD hS hZ)
theorem zj_tin {dflt lo hi : Int} {offs : Array Int} {len : Nat} {x : Int32} {off : Int} {tgt : Nat} (hd : decode M.2.1 pc = .ok (.tableswitch dflt lo hi offs, len)) (h1 : ¬ x.toInt < lo) (h2 : ¬ hi < x.toInt) (ho : offs[(x.toInt - lo).toNat]? = some off) (ht : (pc : Int) + off = (tgt : Int)) (k : zJ M rm al mc ms scr Q (tgt) (lv) (st) h ce sl) : zJ M rm al mc ms scr Q (pc) (lv) (.int x :: st) h ce sl := by
  intro p l e s m args below meth c D aC ρ H locs A Z ls X hl hP hD hS hZ
  exact lv_tableIn X.1 X.2.1 hd h1 h2 ho ht (k p l e s m args below meth c D aC ρ H locs A Z ls X hl hP hD hS hZ)
theorem zj_tout {dflt lo hi : Int} {offs : Array Int} {len : Nat} {x : Int32} {tgt : Nat} (hd : decode M.2.1 pc = .ok (.tableswitch dflt lo hi offs, len)) (h1 : x.toInt < lo ∨ hi < x.toInt) (ht : (pc : Int) + dflt = (tgt : Int)) (k : zJ M rm al mc ms scr Q (tgt) (lv) (st) h ce sl) : zJ M rm al mc ms scr Q (pc) (lv) (.int x :: st) h ce sl := by
  intro p l e s m args below meth c D aC ρ H locs A Z ls X hl hP hD hS hZ
  exact lv_tableOut X.1 X.2.1 hd h1 ht (k p l e s m args below meth c D aC ρ H locs A Z ls X hl hP hD hS hZ)
theorem zj_iload_n {n : Fin 4} {x : Int32} (hd : decode M.2.1 pc = .ok (.iload_n n, 1)) (hi : lv[(n : Nat)]? = some (some (.int x))) (k : zJ M rm al mc ms scr Q (pc + 1) (lv) (.int x :: st) h ce sl) : zJ M rm al mc ms scr Q (pc) (lv) (st) h ce sl := by
  intro p l e s m args below meth c D aC ρ H locs A Z ls X hl hP hD hS hZ
  exact lv_iload_n X.1 X.2.1 hd rfl (zL_get hl hi) (k p l e s m args below meth c D aC ρ H locs A Z ls X hl hP hD hS hZ)
theorem zj_iload {n : Nat} {x : Int32} (hd : decode M.2.1 pc = .ok (.iload n, 2)) (hi : lv[n]? = some (some (.int x))) (k : zJ M rm al mc ms scr Q (pc + 2) (lv) (.int x :: st) h ce sl) : zJ M rm al mc ms scr Q (pc) (lv) (st) h ce sl := by
  intro p l e s m args below meth c D aC ρ H locs A Z ls X hl hP hD hS hZ
  exact lv_iload X.1 X.2.1 hd (zL_get hl hi) (k p l e s m args below meth c D aC ρ H locs A Z ls X hl hP hD hS hZ)
theorem zj_lload_n {n : Fin 4} {x : Int64} (hd : decode M.2.1 pc = .ok (.lload_n n, 1)) (hi : lv[(n : Nat)]? = some (some (.long x))) (k : zJ M rm al mc ms scr Q (pc + 1) (lv) (.long x :: st) h ce sl) : zJ M rm al mc ms scr Q (pc) (lv) (st) h ce sl := by
  intro p l e s m args below meth c D aC ρ H locs A Z ls X hl hP hD hS hZ
  exact lv_lload_n X.1 X.2.1 hd rfl (zL_get hl hi) (k p l e s m args below meth c D aC ρ H locs A Z ls X hl hP hD hS hZ)
theorem zj_lload {n : Nat} {x : Int64} (hd : decode M.2.1 pc = .ok (.lload n, 2)) (hi : lv[n]? = some (some (.long x))) (k : zJ M rm al mc ms scr Q (pc + 2) (lv) (.long x :: st) h ce sl) : zJ M rm al mc ms scr Q (pc) (lv) (st) h ce sl := by
  intro p l e s m args below meth c D aC ρ H locs A Z ls X hl hP hD hS hZ
  exact lv_lload X.1 X.2.1 hd (zL_get hl hi) (k p l e s m args below meth c D aC ρ H locs A Z ls X hl hP hD hS hZ)
theorem zj_aload_n {n : Fin 4} {x : Nat} (hd : decode M.2.1 pc = .ok (.aload_n n, 1)) (hi : lv[(n : Nat)]? = some (some (.ref x))) (k : zJ M rm al mc ms scr Q (pc + 1) (lv) (.ref x :: st) h ce sl) : zJ M rm al mc ms scr Q (pc) (lv) (st) h ce sl := by
  intro p l e s m args below meth c D aC ρ H locs A Z ls X hl hP hD hS hZ
  exact lv_aload_n X.1 X.2.1 hd rfl (zL_get hl hi) (k p l e s m args below meth c D aC ρ H locs A Z ls X hl hP hD hS hZ)
theorem zj_aload {n : Nat} {x : Nat} (hd : decode M.2.1 pc = .ok (.aload n, 2)) (hi : lv[n]? = some (some (.ref x))) (k : zJ M rm al mc ms scr Q (pc + 2) (lv) (.ref x :: st) h ce sl) : zJ M rm al mc ms scr Q (pc) (lv) (st) h ce sl := by
  intro p l e s m args below meth c D aC ρ H locs A Z ls X hl hP hD hS hZ
  exact lv_aload X.1 X.2.1 hd (zL_get hl hi) (k p l e s m args below meth c D aC ρ H locs A Z ls X hl hP hD hS hZ)
theorem zj_aload_nN {n : Fin 4} (hd : decode M.2.1 pc = .ok (.aload_n n, 1)) (hi : lv[(n : Nat)]? = some (some .null)) (k : zJ M rm al mc ms scr Q (pc + 1) (lv) (.null :: st) h ce sl) : zJ M rm al mc ms scr Q (pc) (lv) (st) h ce sl := by
  intro p l e s m args below meth c D aC ρ H locs A Z ls X hl hP hD hS hZ
  exact lv_aload_nN X.1 X.2.1 hd rfl (zL_get hl hi) (k p l e s m args below meth c D aC ρ H locs A Z ls X hl hP hD hS hZ)
theorem zj_aloadN {n : Nat} (hd : decode M.2.1 pc = .ok (.aload n, 2)) (hi : lv[n]? = some (some .null)) (k : zJ M rm al mc ms scr Q (pc + 2) (lv) (.null :: st) h ce sl) : zJ M rm al mc ms scr Q (pc) (lv) (st) h ce sl := by
  intro p l e s m args below meth c D aC ρ H locs A Z ls X hl hP hD hS hZ
  exact lv_aloadN X.1 X.2.1 hd (zL_get hl hi) (k p l e s m args below meth c D aC ρ H locs A Z ls X hl hP hD hS hZ)
theorem zj_istore_n {n : Fin 4} {x : Int32} (hd : decode M.2.1 pc = .ok (.istore_n n, 1)) (hn : (n : Nat) < M.2.2.1) (k : zJ M rm al mc ms scr Q (pc + 1) (zst n (.int x) lv) (st) h ce sl) : zJ M rm al mc ms scr Q (pc) (lv) (.int x :: st) h ce sl := by
  intro p l e s m args below meth c D aC ρ H locs A Z ls X hl hP hD hS hZ
  exact lv_istore_n X.1 X.2.1 hd rfl (zL_A hl) hn rfl (fun ls' hl' => (k p l e s m args below meth c D aC ρ H locs A Z ls' X (zL_st hl') hP hD hS hZ))
theorem zj_istore {n : Nat} {x : Int32} (hd : decode M.2.1 pc = .ok (.istore n, 2)) (hn : n < M.2.2.1) (k : zJ M rm al mc ms scr Q (pc + 2) (zst n (.int x) lv) (st) h ce sl) : zJ M rm al mc ms scr Q (pc) (lv) (.int x :: st) h ce sl := by
  intro p l e s m args below meth c D aC ρ H locs A Z ls X hl hP hD hS hZ
  exact lv_istore X.1 X.2.1 hd (zL_A hl) hn rfl (fun ls' hl' => (k p l e s m args below meth c D aC ρ H locs A Z ls' X (zL_st hl') hP hD hS hZ))
theorem zj_astore_n {n : Fin 4} {x : Nat} (hd : decode M.2.1 pc = .ok (.astore_n n, 1)) (hn : (n : Nat) < M.2.2.1) (k : zJ M rm al mc ms scr Q (pc + 1) (zst n (.ref x) lv) (st) h ce sl) : zJ M rm al mc ms scr Q (pc) (lv) (.ref x :: st) h ce sl := by
  intro p l e s m args below meth c D aC ρ H locs A Z ls X hl hP hD hS hZ
  exact lv_astore_n X.1 X.2.1 hd rfl (zL_A hl) hn rfl (fun ls' hl' => (k p l e s m args below meth c D aC ρ H locs A Z ls' X (zL_st hl') hP hD hS hZ))
theorem zj_astore {n : Nat} {x : Nat} (hd : decode M.2.1 pc = .ok (.astore n, 2)) (hn : n < M.2.2.1) (k : zJ M rm al mc ms scr Q (pc + 2) (zst n (.ref x) lv) (st) h ce sl) : zJ M rm al mc ms scr Q (pc) (lv) (.ref x :: st) h ce sl := by
  intro p l e s m args below meth c D aC ρ H locs A Z ls X hl hP hD hS hZ
  exact lv_astore X.1 X.2.1 hd (zL_A hl) hn rfl (fun ls' hl' => (k p l e s m args below meth c D aC ρ H locs A Z ls' X (zL_st hl') hP hD hS hZ))
theorem zj_astore_nN {n : Fin 4} (hd : decode M.2.1 pc = .ok (.astore_n n, 1)) (hn : (n : Nat) < M.2.2.1) (k : zJ M rm al mc ms scr Q (pc + 1) (zst n .null lv) (st) h ce sl) : zJ M rm al mc ms scr Q (pc) (lv) (.null :: st) h ce sl := by
  intro p l e s m args below meth c D aC ρ H locs A Z ls X hl hP hD hS hZ
  exact lv_astore_nN X.1 X.2.1 hd rfl (zL_A hl) hn rfl (fun ls' hl' => (k p l e s m args below meth c D aC ρ H locs A Z ls' X (zL_st hl') hP hD hS hZ))
theorem zj_astoreN {n : Nat} (hd : decode M.2.1 pc = .ok (.astore n, 2)) (hn : n < M.2.2.1) (k : zJ M rm al mc ms scr Q (pc + 2) (zst n .null lv) (st) h ce sl) : zJ M rm al mc ms scr Q (pc) (lv) (.null :: st) h ce sl := by
  intro p l e s m args below meth c D aC ρ H locs A Z ls X hl hP hD hS hZ
  exact lv_astoreN X.1 X.2.1 hd (zL_A hl) hn rfl (fun ls' hl' => (k p l e s m args below meth c D aC ρ H locs A Z ls' X (zL_st hl') hP hD hS hZ))
theorem zj_lstore_n {n : Fin 4} {x : Int64} (hd : decode M.2.1 pc = .ok (.lstore_n n, 1)) (hn : (n : Nat) + 1 < M.2.2.1) (k : zJ M rm al mc ms scr Q (pc + 1) (zst2 n (.long x) lv) (st) h ce sl) : zJ M rm al mc ms scr Q (pc) (lv) (.long x :: st) h ce sl := by
  intro p l e s m args below meth c D aC ρ H locs A Z ls X hl hP hD hS hZ
  exact lv_lstore_n X.1 X.2.1 hd rfl (zL_A hl) hn rfl (fun ls' hl' => (k p l e s m args below meth c D aC ρ H locs A Z ls' X (zL_st2 hl') hP hD hS hZ))
theorem zj_lstore {n : Nat} {x : Int64} (hd : decode M.2.1 pc = .ok (.lstore n, 2)) (hn : n + 1 < M.2.2.1) (k : zJ M rm al mc ms scr Q (pc + 2) (zst2 n (.long x) lv) (st) h ce sl) : zJ M rm al mc ms scr Q (pc) (lv) (.long x :: st) h ce sl := by
  intro p l e s m args below meth c D aC ρ H locs A Z ls X hl hP hD hS hZ
  exact lv_lstore X.1 X.2.1 hd (zL_A hl) hn rfl (fun ls' hl' => (k p l e s m args below meth c D aC ρ H locs A Z ls' X (zL_st2 hl') hP hD hS hZ))
theorem zj_iinc {i : Nat} {n : Int} {x v : Int32} (hd : decode M.2.1 pc = .ok (.iinc i n, 3)) (hv : Int32.ofInt n = v) (hi : lv[i]? = some (some (.int x))) (hn : i < M.2.2.1) (k : zJ M rm al mc ms scr Q (pc + 3) (zst i (.int (x + v)) lv) (st) h ce sl) : zJ M rm al mc ms scr Q (pc) (lv) (st) h ce sl := by
  intro p l e s m args below meth c D aC ρ H locs A Z ls X hl hP hD hS hZ
  subst hv
  obtain ⟨j, hj⟩ := List.mem_iff_getElem?.mp (zA_mem (ρ := ρ) hi)
  exact lv_iinc X.1 X.2.1 hd (zL_A hl) hj rfl hn rfl (fun ls' hl' => (k p l e s m args below meth c D aC ρ H locs A Z ls' X (zL_st hl') hP hD hS hZ))
end ZR
