theorem R_write {n : Nat} {u : PW} {v : MW} {g : Nat → Int64} {a1 : Int32} {a2 : Int32} (hn : n < 512) (h : Rel n u v) : f_X7_thrown (f_X7_write v a1 a2).2 = (f_L_write u g a1 a2).1 ∧ ((f_L_write u g a1 a2).1 = 0 → (f_L_write u g a1 a2).2.2 (0 : Int32).toNatClampNeg = ((f_X7_write v a1 a2).1).toInt64) ∧ Rel (n + 1) (f_L_write u g a1 a2).2.1 (f_X7_write v a1 a2).2 := by
  sorry
theorem R_read {n : Nat} {u : PW} {v : MW} {g : Nat → Int64} {a1 : Int32} (hn : n < 512) (h : Rel n u v) : f_X7_thrown (f_X7_read v a1).2 = (f_L_read u g a1).1 ∧ ((f_L_read u g a1).1 = 0 → (f_L_read u g a1).2.2 (0 : Int32).toNatClampNeg = ((f_X7_read v a1).1).toInt64) ∧ Rel (n + 1) (f_L_read u g a1).2.1 (f_X7_read v a1).2 := by
  sorry
theorem R_writeDisk {n : Nat} {u : PW} {v : MW} {g : Nat → Int64} {a1 : Int32} {a2 : Int32} (hn : n < 512) (h : Rel n u v) : f_X7_thrown (f_X7_writeDisk v a1 a2).2 = (f_L_writeDisk u g a1 a2).1 ∧ ((f_L_writeDisk u g a1 a2).1 = 0 → (f_L_writeDisk u g a1 a2).2.2 (0 : Int32).toNatClampNeg = ((f_X7_writeDisk v a1 a2).1).toInt64) ∧ Rel (n + 1) (f_L_writeDisk u g a1 a2).2.1 (f_X7_writeDisk v a1 a2).2 := by
  sorry
theorem R_readDisk {n : Nat} {u : PW} {v : MW} {g : Nat → Int64} {a1 : Int32} (hn : n < 512) (h : Rel n u v) : f_X7_thrown (f_X7_readDisk v a1).2 = (f_L_readDisk u g a1).1 ∧ ((f_L_readDisk u g a1).1 = 0 → (f_L_readDisk u g a1).2.2 (0 : Int32).toNatClampNeg = ((f_X7_readDisk v a1).1).toInt64) ∧ Rel (n + 1) (f_L_readDisk u g a1).2.1 (f_X7_readDisk v a1).2 := by
  sorry
theorem R_register {n : Nat} {u : PW} {v : MW} {g : Nat → Int64} {a1 : Int32} (hn : n < 512) (h : Rel n u v) : f_X7_thrown (f_X7_register v a1).2 = (f_L_register u g a1).1 ∧ ((f_L_register u g a1).1 = 0 → (f_L_register u g a1).2.2 (0 : Int32).toNatClampNeg = ((f_X7_register v a1).1).toInt64) ∧ Rel (n + 1) (f_L_register u g a1).2.1 (f_X7_register v a1).2 := by
  sorry
theorem R_type {n : Nat} {u : PW} {v : MW} {g : Nat → Int64} {a1 : Int32} (hn : n < 512) (h : Rel n u v) : f_X7_thrown (f_X7_type v a1).2 = (f_L_type u g a1).1 ∧ ((f_L_type u g a1).1 = 0 → (f_L_type u g a1).2.2 (0 : Int32).toNatClampNeg = ((f_X7_type v a1).1).toInt64) ∧ Rel (n + 1) (f_L_type u g a1).2.1 (f_X7_type v a1).2 := by
  sorry
theorem R_text {n : Nat} {u : PW} {v : MW} {g : Nat → Int64} {a1 : Int32} (hn : n < 512) (h : Rel n u v) : f_X7_thrown (f_X7_text v a1).2 = (f_L_text u g a1).1 ∧ ((f_L_text u g a1).1 = 0 → (f_L_text u g a1).2.2 (0 : Int32).toNatClampNeg = ((f_X7_text v a1).1).toInt64) ∧ Rel (n + 1) (f_L_text u g a1).2.1 (f_X7_text v a1).2 := by
  sorry
theorem R_step {n : Nat} {u : PW} {v : MW} {g : Nat → Int64} {a1 : Int32} (hn : n < 512) (h : Rel n u v) : f_X7_thrown (f_X7_step v a1).2 = (f_L_step u g a1).1 ∧ ((f_L_step u g a1).1 = 0 → (f_L_step u g a1).2.2 (0 : Int32).toNatClampNeg = ((f_X7_step v a1).1).toInt64) ∧ Rel (n + 1) (f_L_step u g a1).2.1 (f_X7_step v a1).2 := by
  sorry
theorem R_told {n : Nat} {u : PW} {v : MW} {g : Nat → Int64} {a1 : Int32} (hn : n < 512) (h : Rel n u v) : f_X7_thrown (f_X7_told v a1).2 = (f_L_told u g a1).1 ∧ ((f_L_told u g a1).1 = 0 → (f_L_told u g a1).2.2 (0 : Int32).toNatClampNeg = ((f_X7_told v a1).1).toInt64) ∧ Rel (n + 1) (f_L_told u g a1).2.1 (f_X7_told v a1).2 := by
  sorry
theorem R_put {n : Nat} {u : PW} {v : MW} {a1 : Int32} {a2 : Int32} (hn : n < 512) (h : Rel n u v) : f_X7_thrown (f_X7_put v a1 a2) = (f_L_put u a1 a2).1 ∧ Rel (n + 1) (f_L_put u a1 a2).2 (f_X7_put v a1 a2) := by
  sorry
theorem R_want {n : Nat} {u : PW} {v : MW} {a1 : Int32} (hn : n < 512) (h : Rel n u v) : f_X7_thrown (f_X7_want v a1) = (f_L_want u a1).1 ∧ Rel (n + 1) (f_L_want u a1).2 (f_X7_want v a1) := by
  sorry
theorem R_init : Rel 0 pw0 mw0 := by
  sorry
theorem R_written {n : Nat} {u : PW} {v : MW} (hn : n < 512) (h : Rel n u v) : f_X6_written u = (f_X7_written v).1 ∧ Rel (n + 1) u (f_X7_written v).2 := by
  sorry
theorem R_cycles {n : Nat} {u : PW} {v : MW} (hn : n < 512) (h : Rel n u v) : f_X6_cycles u = (f_X7_cycles v).1 ∧ Rel (n + 1) u (f_X7_cycles v).2 := by
  sorry
theorem R_sum {n : Nat} {u : PW} {v : MW} (hn : n < 512) (h : Rel n u v) : f_X6_sum u = (f_X7_sum v).1 ∧ Rel (n + 1) u (f_X7_sum v).2 := by
  sorry
theorem R_hC {n : Nat} {u : PW} {v : MW} (h : Rel n u v) : ∃ i j : Nat, i < 64 ∧ j ≤ 64 ∧ gCS_fst (gPW_C u) = nI i ∧ gCS_cnt (gPW_C u) = nI j := by
  sorry
theorem R_hI {n : Nat} {u : PW} {v : MW} (h : Rel n u v) : ∃ q : Nat, q ≤ 64 ∧ gMW_ins v = nI q := by
  sorry
theorem R_hG {n : Nat} {u : PW} {v : MW} {a1 : Int32} (hn : n < 512) (h : Rel n u v) : ∀ z, z < (a1).toNatClampNeg → ∃ i j : Nat, i < 64 ∧ j ≤ 64 ∧ gCS_fst (gPW_C (cit z u).2) = nI i ∧ gCS_cnt (gPW_C (cit z u).2) = nI j := by
  sorry
theorem R_hM {n : Nat} {u : PW} {v : MW} {a1 : Int32} (hn : n < 512) (h : Rel n u v) : bI (if a1 < (0 : Int32) then true else (if a1 ≤ (3000 : Int32) then false else true : Bool) : Bool) = 0 → ∀ j, j < (a1).toNatClampNeg → mOK (mit j (sMW_thr v (bI (if a1 < (0 : Int32) then true else (if a1 ≤ (3000 : Int32) then false else true : Bool) : Bool)))).2 := by
  sorry
theorem R_up {n : Nat} {u : PW} {v : MW} (h : Rel n u v) : Rel (n + 1) u v := by
  sorry