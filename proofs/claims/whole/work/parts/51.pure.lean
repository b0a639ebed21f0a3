/-! arithmetic, both ways -/
def accF (u : PW) (c : Int32 × FS) : PW := sPW_P_r (sPW_F u c.2) (upd (gPW_P_r (sPW_F u c.2)) (7 : Int32).toNatClampNeg c.1)
theorem upd_same (f : Nat → Int32) (k : Nat) : upd f k (f k) = f := by
  funext j
  unfold upd
  by_cases h : j = k
  · rw [if_pos h, h]
  · rw [if_neg h]
theorem isB_band {x y : Int32} (hx : isB x) (hy : isB y) : isB (x &&& y) ∧ isB (x ||| y) ∧ isB (x ^^^ y) := by
  refine ⟨?_, ?_, ?_⟩
  · unfold isB
    refine b_ext (fun i hi => ?_)
    have h1 := congrArg (fun z => bt z i) hx
    simp only [b_and] at h1 ⊢
    rw [← h1]
    cases bt x i <;> cases bt y i <;> cases bt 255 i <;> rfl
  · unfold isB
    refine b_ext (fun i hi => ?_)
    have h1 := congrArg (fun z => bt z i) hx
    have h2 := congrArg (fun z => bt z i) hy
    simp only [b_and, b_or] at h1 h2 ⊢
    rw [← h1, ← h2]
    cases bt x i <;> cases bt y i <;> cases bt 255 i <;> rfl
  · unfold isB
    refine b_ext (fun i hi => ?_)
    have h1 := congrArg (fun z => bt z i) hx
    have h2 := congrArg (fun z => bt z i) hy
    simp only [b_and, b_xor] at h1 h2 ⊢
    rw [← h1, ← h2]
    cases bt x i <;> cases bt y i <;> cases bt 255 i <;> rfl
section ONM2
variable {u : PW} {t w : Int32} {inp : Nat → Int32} {ins cmd due : Int32}
theorem M_sum (v c : Int32) : f_X7_sum_ (toM u t w inp ins cmd due) v c = toM (accF u (f_X0_added (gPW_F u) ((gPW_P_r u) (7 : Int32).toNatClampNeg) v c)) t w inp ins cmd due := by
  unfold f_X7_sum_
  simp only [M_sh, M_sc, M_sr, M_gr]
  exact (M_logic (isB_and _)).trans rfl
theorem M_less (v c : Int32) : f_X7_less (toM u t w inp ins cmd due) v c = ((f_X0_subtracted (gPW_F u) ((gPW_P_r u) (7 : Int32).toNatClampNeg) v c).1, toM (sPW_F u (f_X0_subtracted (gPW_F u) ((gPW_P_r u) (7 : Int32).toNatClampNeg) v c).2) t w inp ins cmd due) := by
  unfold f_X7_less
  simp only [M_sh, M_sc, M_sr, M_gr]
  rw [M_logic (isB_and _)]
  rfl
theorem M_reckon {y v : Int32} (h : vp_in y 8) (hr : isB ((gPW_P_r u) (7 : Int32).toNatClampNeg)) (hv : isB v) : f_X7_reckon (toM u t w inp ins cmd due) y v = toM (accF u (f_X0_combine (gPW_F u) y ((gPW_P_r u) (7 : Int32).toNatClampNeg) v)) t w inp ins cmd due := by
  rcases in_cases8 h with rfl | rfl | rfl | rfl | rfl | rfl | rfl | rfl
  · exact M_sum v 0
  · exact M_sum v (f_X3_carryBit (gPW_F u))
  · show sMW_r (f_X7_less (toM u t w inp ins cmd due) v 0).2 (upd (gMW_r (f_X7_less (toM u t w inp ins cmd due) v 0).2) (7 : Int32).toNatClampNeg (f_X7_less (toM u t w inp ins cmd due) v 0).1) = _
    rw [M_less]; rfl
  · show sMW_r (f_X7_less (toM u t w inp ins cmd due) v (f_X3_carryBit (gPW_F u))).2 (upd (gMW_r (f_X7_less (toM u t w inp ins cmd due) v (f_X3_carryBit (gPW_F u))).2) (7 : Int32).toNatClampNeg (f_X7_less (toM u t w inp ins cmd due) v (f_X3_carryBit (gPW_F u))).1) = _
    rw [M_less]; rfl
  · exact (M_logic (u := sPW_F_h (sPW_F_c (sPW_P_r u (upd (gPW_P_r u) (7 : Int32).toNatClampNeg ((gPW_P_r u) (7 : Int32).toNatClampNeg &&& v))) false) (if (((gPW_P_r u) (7 : Int32).toNatClampNeg ||| v) &&& (8 : Int32)) = (0 : Int32) then false else true : Bool)) (v := (gPW_P_r u) (7 : Int32).toNatClampNeg &&& v) (isB_band hr hv).1).trans rfl
  · exact (M_logic (u := sPW_F_h (sPW_F_c (sPW_P_r u (upd (gPW_P_r u) (7 : Int32).toNatClampNeg ((gPW_P_r u) (7 : Int32).toNatClampNeg ^^^ v))) false) false) (v := (gPW_P_r u) (7 : Int32).toNatClampNeg ^^^ v) (isB_band hr hv).2.2).trans rfl
  · exact (M_logic (u := sPW_F_h (sPW_F_c (sPW_P_r u (upd (gPW_P_r u) (7 : Int32).toNatClampNeg ((gPW_P_r u) (7 : Int32).toNatClampNeg ||| v))) false) false) (v := (gPW_P_r u) (7 : Int32).toNatClampNeg ||| v) (isB_band hr hv).2.1).trans rfl
  · show (f_X7_less (toM u t w inp ins cmd due) v 0).2 = toM (sPW_P_r (sPW_F u (f_X0_subtracted (gPW_F u) ((gPW_P_r u) (7 : Int32).toNatClampNeg) v 0).2) (upd (gPW_P_r u) (7 : Int32).toNatClampNeg ((gPW_P_r u) (7 : Int32).toNatClampNeg))) t w inp ins cmd due
    rw [M_less, upd_same]; rfl
end ONM2
theorem rot_c : ∀ n : Nat, n < 256 → (if nI n ≤ (127 : Int32) then false else true : Bool) = (if (nI n &&& (128 : Int32)) = (0 : Int32) then false else true : Bool) := lg_s
theorem rot_r : ∀ n : Nat, n < 256 → (if (nI n &&& (1 : Int32)) = (1 : Int32) then true else false : Bool) = (if (nI n &&& (1 : Int32)) = (0 : Int32) then false else true : Bool) := by decide +kernel
theorem cpl_b : ∀ n : Nat, n < 256 → (255 : Int32) - nI n = nI n ^^^ (255 : Int32) := by decide +kernel
