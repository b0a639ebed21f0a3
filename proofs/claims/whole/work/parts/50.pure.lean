/-! the reference's functions on a state seen as the reference's -/
theorem isB_of {x : Int32} (h : isB x) : ∃ n : Nat, n < 256 ∧ x = nI n := by
  obtain ⟨j, hj, e⟩ := pk_andE x (m := 255) 8 (by decide)
  exact ⟨j, hj, h.symm.trans e⟩
theorem isB_nI : ∀ n : Nat, n < 256 → isB (nI n) := by
  unfold isB
  decide +kernel
theorem isB_and (x : Int32) : isB (x &&& 255) := by
  obtain ⟨j, hj, e⟩ := pk_andE x (m := 255) 8 (by decide)
  rw [e]
  exact isB_nI j hj
theorem isW_of {x : Int32} (h : isW x) : ∃ n : Nat, n < 65536 ∧ x = nI n := by
  obtain ⟨j, hj, e⟩ := pk_andE x (m := 65535) 16 (by decide)
  exact ⟨j, hj, h.symm.trans e⟩
theorem isW_and (x : Int32) : isW (x &&& 65535) := by
  unfold isW
  refine b_ext (fun i hi => ?_)
  rw [b_and, b_and, Bool.and_assoc, Bool.and_self]
theorem w_pc1 (x : Int32) : ((x + 1) &&& 65535) &&& 4095 = (x + 1) &&& 4095 := by
  refine b_ext (fun i hi => ?_)
  rw [b_and, b_and, b_and, Bool.and_assoc]
  congr 1
  have : ∀ k, k < 32 → (bt 65535 k && bt 4095 k) = bt 4095 k := by decide +kernel
  exact this i hi
theorem tn_add (x y : Int32) : (x + y).toBitVec.toNat = (x.toBitVec.toNat + y.toBitVec.toNat) % 2 ^ 32 := by
  rw [Int32.toBitVec_add, BitVec.toNat_add]
theorem w_pc2 (x : Int32) : (((x + 1) &&& 65535) + 1) &&& 65535 = (x + 2) &&& 65535 := by
  rw [pk_and (((x + 1) &&& 65535) + 1) (m := 65535) 16 (by decide), pk_and (x + 2) (m := 65535) 16 (by decide), pk_and (x + 1) (m := 65535) 16 (by decide)]
  congr 1
  rw [tn_add, tn_add x 2, tn_add x 1, pk_tn (Nat.lt_of_lt_of_le (Nat.mod_lt _ (by decide)) (by decide))]
  have h1 : (1 : Int32).toBitVec.toNat = 1 := by decide
  have h2 : (2 : Int32).toBitVec.toNat = 2 := by decide
  rw [h1, h2]
  omega
section ONM
variable {u : PW} {t w : Int32} {inp : Nat → Int32} {ins cmd due : Int32}
theorem M_get (a : Int32) : f_X7_get (toM u t w inp ins cmd due) a = f_X5_byteAt (gPW_m u) a := rfl
theorem M_set (a v : Int32) : f_X7_set (toM u t w inp ins cmd due) a v = toM (sPW_m u (f_X5_setByte (gPW_m u) a v)) t w inp ins cmd due := rfl
theorem M_getWord (a : Int32) : f_X7_getWord (toM u t w inp ins cmd due) a = f_X5_wordAt (gPW_m u) a := rfl
theorem M_setWord (a v : Int32) : f_X7_setWord (toM u t w inp ins cmd due) a v = toM (sPW_m u (f_X5_setWord (gPW_m u) a v)) t w inp ins cmd due := rfl
theorem M_next : f_X7_next (toM u t w inp ins cmd due) = ((f_X4_nextByte u).1, toM (f_X4_nextByte u).2 t w inp ins cmd due) := rfl
theorem M_push (v : Int32) : f_X7_push (toM u t w inp ins cmd due) v = toM (f_X4_push u v) t w inp ins cmd due := rfl
theorem M_pop : f_X7_pop (toM u t w inp ins cmd due) = ((f_X4_pop u).1, toM (f_X4_pop u).2 t w inp ins cmd due) := rfl
theorem M_pair (p : Int32) : f_X7_pair (toM u t w inp ins cmd due) p = f_X4_pair u p := rfl
theorem M_hl : f_X7_hl (toM u t w inp ins cmd due) = f_X4_pair u 2 := by
  unfold f_X4_pair
  rw [if_neg (by decide)]
  rfl
theorem M_setPair (p v : Int32) : f_X7_setPair (toM u t w inp ins cmd due) p v = toM (f_X4_setPair u p v) t w inp ins cmd due := by
  unfold f_X7_setPair f_X4_setPair
  by_cases h : p = (3 : Int32)
  · rw [if_pos h, if_pos h]; rfl
  · rw [if_neg h, if_neg h]; rfl
theorem M_reg (k : Int32) : f_X7_reg (toM u t w inp ins cmd due) k = f_X4_value u k := by
  unfold f_X7_reg f_X4_value
  rw [M_hl, M_get]
  rfl
theorem M_setReg {v : Int32} (k : Int32) (hv : isB v) : f_X7_setReg (toM u t w inp ins cmd due) k v = toM (f_X4_setValue u k v) t w inp ins cmd due := by
  unfold f_X7_setReg f_X4_setValue
  rw [M_hl, M_set, show v &&& (255 : Int32) = v from hv]
  by_cases h : k = (6 : Int32)
  · rw [if_pos h, if_pos h]
  · rw [if_neg h, if_neg h]; rfl
theorem M_flags : f_X7_flags (toM u t w inp ins cmd due) = f_X3_packed (gPW_F u) := rfl
theorem M_setFlags (v : Int32) : f_X7_setFlags (toM u t w inp ins cmd due) v = toM (sPW_F u (f_X3_unpack (gPW_F u) v)) t w inp ins cmd due := rfl
theorem M_spent (x : Int32) : sMW_spent (toM u t w inp ins cmd due) x = toM u t x inp ins cmd due := rfl
theorem M_thr (x : Int32) : sMW_thr (toM u t w inp ins cmd due) x = toM u x w inp ins cmd due := rfl
theorem M_sc (x : Bool) : sMW_c (toM u t w inp ins cmd due) x = toM (sPW_F_c u x) t w inp ins cmd due := rfl
theorem M_sh (x : Bool) : sMW_h (toM u t w inp ins cmd due) x = toM (sPW_F_h u x) t w inp ins cmd due := rfl
theorem M_sr (x : Nat → Int32) : sMW_r (toM u t w inp ins cmd due) x = toM (sPW_P_r u x) t w inp ins cmd due := rfl
theorem M_spc (x : Int32) : sMW_pc (toM u t w inp ins cmd due) x = toM (sPW_P_pc u x) t w inp ins cmd due := rfl
theorem M_ssp (x : Int32) : sMW_sp (toM u t w inp ins cmd due) x = toM (sPW_P_sp u x) t w inp ins cmd due := rfl
theorem M_shlt (x : Bool) : sMW_hlt (toM u t w inp ins cmd due) x = toM (sPW_P_hlt u x) t w inp ins cmd due := rfl
theorem M_son (x : Bool) : sMW_on (toM u t w inp ins cmd due) x = toM (sPW_P_on u x) t w inp ins cmd due := rfl
theorem M_sjon (x : Bool) : sMW_jon (toM u t w inp ins cmd due) x = toM (sPW_P_jon u x) t w inp ins cmd due := rfl
theorem M_swant (x : Int32) : sMW_want (toM u t w inp ins cmd due) x = toM (sPW_P_want u x) t w inp ins cmd due := rfl
theorem M_gr : gMW_r (toM u t w inp ins cmd due) = gPW_P_r u := rfl
theorem M_gpc : gMW_pc (toM u t w inp ins cmd due) = gPW_P_pc u := rfl
theorem M_gsp : gMW_sp (toM u t w inp ins cmd due) = gPW_P_sp u := rfl
theorem M_gc : gMW_c (toM u t w inp ins cmd due) = gPW_F_c u := rfl
theorem M_gh : gMW_h (toM u t w inp ins cmd due) = gPW_F_h u := rfl
theorem M_nextWord : f_X7_nextWord (toM u t w inp ins cmd due) = ((f_X4_nextWord u).1, toM (f_X4_nextWord u).2 t w inp ins cmd due) := by
  unfold f_X7_nextWord
  rw [M_next, M_next]
  refine Prod.ext ?_ ?_
  · show (f_X5_byteAt (gPW_m u) (gPW_P_pc u)) ||| (f_X5_byteAt (gPW_m u) ((gPW_P_pc u + 1) &&& 65535)) <<< ((8 : Int32) &&& 31) = f_X5_wordAt (gPW_m u) (gPW_P_pc u)
    unfold f_X5_byteAt f_X5_wordAt
    rw [w_pc1]
  · show toM (sPW_P_pc (sPW_P_pc u ((gPW_P_pc u + 1) &&& 65535)) ((((gPW_P_pc u + 1) &&& 65535) + 1) &&& 65535)) t w inp ins cmd due = toM (sPW_P_pc u ((gPW_P_pc u + 2) &&& 65535)) t w inp ins cmd due
    rw [w_pc2]
    rfl
theorem M_holds {y : Int32} (h : vp_in y 8) : f_X7_holds (toM u t w inp ins cmd due) y = f_X3_holds (gPW_F u) y := by
  rcases in_cases8 h with rfl | rfl | rfl | rfl | rfl | rfl | rfl | rfl <;> rfl
end ONM
/-- logic of a byte, both ways -/
theorem lg_s : ∀ n : Nat, n < 256 → (if nI n ≤ (127 : Int32) then false else true : Bool) = (if (nI n &&& (128 : Int32)) = (0 : Int32) then false else true : Bool) := by decide +kernel
theorem lg_p : ∀ n : Nat, n < 256 → (if ((ones (nI n) 8) - (ones (nI n) 8) / 2 * 2) = 0 then true else false : Bool) = (if ((f_J6_bitCount_0f7a4 (nI n)) &&& (1 : Int32)) = (0 : Int32) then true else false : Bool) := by decide +kernel
theorem M_logic {u : PW} {t w : Int32} {inp : Nat → Int32} {ins cmd due : Int32} {v : Int32} (hv : isB v) : f_X7_logic (toM u t w inp ins cmd due) v = toM (sPW_F u (f_X3_setLogic (gPW_F u) v)) t w inp ins cmd due := by
  obtain ⟨n, hn, rfl⟩ := isB_of hv
  unfold f_X7_logic f_X3_setLogic
  rw [lg_s n hn, lg_p n hn]
  rfl
