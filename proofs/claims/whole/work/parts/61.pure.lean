/-! one instruction, whole -/
def f4 (v : PW) (c : Int32) : Int32 × PW :=
  if (c >>> ((6 : Int32) &&& 31)) = 0 then ((f_X4_firstQuarter v ((c >>> ((3 : Int32) &&& 31)) &&& (7 : Int32)) (c &&& (7 : Int32))).1, (f_X4_firstQuarter v ((c >>> ((3 : Int32) &&& 31)) &&& (7 : Int32)) (c &&& (7 : Int32))).2)
  else
    if (c >>> ((6 : Int32) &&& 31)) = 1 then ((f_X4_transfer v ((c >>> ((3 : Int32) &&& 31)) &&& (7 : Int32)) (c &&& (7 : Int32))).1, (f_X4_transfer v ((c >>> ((3 : Int32) &&& 31)) &&& (7 : Int32)) (c &&& (7 : Int32))).2)
    else
      if (c >>> ((6 : Int32) &&& 31)) = 2 then ((if (c &&& (7 : Int32)) = (6 : Int32) then 7 else 4 : Int32), accF v (f_X0_combine (gPW_F v) ((c >>> ((3 : Int32) &&& 31)) &&& (7 : Int32)) ((gPW_P_r v) (7 : Int32).toNatClampNeg) (f_X4_value v (c &&& (7 : Int32)))))
      else ((f_X4_lastQuarter v ((c >>> ((3 : Int32) &&& 31)) &&& (7 : Int32)) (c &&& (7 : Int32))).1, (f_X4_lastQuarter v ((c >>> ((3 : Int32) &&& 31)) &&& (7 : Int32)) (c &&& (7 : Int32))).2)
theorem X4i (u : PW) : f_X4_instruction u = f4 (f_X4_nextByte (sPW_P_jon u false)).2 (f_X4_nextByte (sPW_P_jon u false)).1 := by
  unfold f_X4_instruction f4 accF
  rfl
def f7 (m : MW) (c : Int32) : MW :=
  if (64 : Int32) ≤ c then
    if c = (118 : Int32) then (sMW_hlt (sMW_spent m 7) true)
    else
      if (128 : Int32) ≤ c then
        if (192 : Int32) ≤ c then (f_X7_three m ((c >>> ((3 : Int32) &&& 31)) &&& (7 : Int32)) (c &&& (7 : Int32)))
        else (f_X7_reckon (sMW_spent m (if (c &&& (7 : Int32)) = (6 : Int32) then 7 else 4 : Int32)) ((c >>> ((3 : Int32) &&& 31)) &&& (7 : Int32)) (f_X7_reg (sMW_spent m (if (c &&& (7 : Int32)) = (6 : Int32) then 7 else 4 : Int32)) (c &&& (7 : Int32))))
      else (f_X7_setReg (sMW_spent m (if ((c >>> ((3 : Int32) &&& 31)) &&& (7 : Int32)) = (6 : Int32) then 7 else (if (c &&& (7 : Int32)) = (6 : Int32) then 7 else 5 : Int32) : Int32)) ((c >>> ((3 : Int32) &&& 31)) &&& (7 : Int32)) (f_X7_reg (sMW_spent m (if ((c >>> ((3 : Int32) &&& 31)) &&& (7 : Int32)) = (6 : Int32) then 7 else (if (c &&& (7 : Int32)) = (6 : Int32) then 7 else 5 : Int32) : Int32)) (c &&& (7 : Int32))))
  else (f_X7_zero m ((c >>> ((3 : Int32) &&& 31)) &&& (7 : Int32)) (c &&& (7 : Int32)))
theorem X7i0 (m : MW) : f_X7_instruction m = f7 (sMW_jon (f_X7_next m).2 false) (f_X7_next m).1 := by
  unfold f_X7_instruction f7
  rfl
theorem op_cases : ∀ n : Nat, n < 256 → (¬ (64 : Int32) ≤ nI n ∧ (nI n >>> ((6 : Int32) &&& 31)) = 0) ∨ ((64 : Int32) ≤ nI n ∧ nI n = 118 ∧ (nI n >>> ((6 : Int32) &&& 31)) = 1 ∧ ((nI n >>> ((3 : Int32) &&& 31)) &&& (7 : Int32)) = 6 ∧ (nI n &&& (7 : Int32)) = 6) ∨ ((64 : Int32) ≤ nI n ∧ ¬ nI n = 118 ∧ ¬ (128 : Int32) ≤ nI n ∧ (nI n >>> ((6 : Int32) &&& 31)) = 1 ∧ ¬ (((nI n >>> ((3 : Int32) &&& 31)) &&& (7 : Int32)) = 6 ∧ (nI n &&& (7 : Int32)) = 6)) ∨ ((64 : Int32) ≤ nI n ∧ ¬ nI n = 118 ∧ (128 : Int32) ≤ nI n ∧ ¬ (192 : Int32) ≤ nI n ∧ (nI n >>> ((6 : Int32) &&& 31)) = 2) ∨ ((64 : Int32) ≤ nI n ∧ ¬ nI n = 118 ∧ (128 : Int32) ≤ nI n ∧ (192 : Int32) ≤ nI n ∧ (nI n >>> ((6 : Int32) &&& 31)) = 3) := by decide +kernel
theorem T_hlt {v : PW} {y z : Int32} (hy : y = 6) (hz : z = 6) : f_X4_transfer v y z = (7, (sPW_P_hlt v true)) := by
  unfold f_X4_transfer
  rw [if_pos hy, if_pos hz]
theorem T_mov {v : PW} {y z : Int32} (h : ¬ (y = 6 ∧ z = 6)) : f_X4_transfer v y z = ((if y = (6 : Int32) then 7 else (if z = (6 : Int32) then 7 else 5 : Int32) : Int32), (f_X4_setValue v y (f_X4_value v z))) := by
  unfold f_X4_transfer
  by_cases a : y = (6 : Int32)
  · rw [if_pos a, if_neg (fun b => h ⟨a, b⟩)]
  · rw [if_neg a]
section ONMB
variable {v u : PW} {t w : Int32} {inp : Nat → Int32} {ins cmd due : Int32} {q : Nat}
theorem R_core {c : Int32} (hc : isB c) (hI : Inv v inp ins cmd due q) (hj : gPW_P_jon v = false) (hh : gPW_P_hlt v = false) : Res t q (f7 (toM v t w inp ins cmd due) c) (f4 v c).1 (f4 v c).2 := by
  have hB := hI.1
  have hy : vp_in ((c >>> ((3 : Int32) &&& 31)) &&& (7 : Int32)) 8 := ix_8 _
  have hz : vp_in (c &&& (7 : Int32)) 8 := ix_8 _
  obtain ⟨n, hn, en⟩ := isB_of hc
  have o := op_cases n hn
  rw [← en] at o
  unfold f7 f4
  generalize ((c >>> ((3 : Int32) &&& 31)) &&& (7 : Int32)) = y at *
  generalize (c &&& (7 : Int32)) = z at *
  rcases o with ⟨a1, a2⟩ | ⟨a1, a2, a3, a4, a5⟩ | ⟨a1, a2, a3, a4, a5⟩ | ⟨a1, a2, a3, a4, a5⟩ | ⟨a1, a2, a3, a4, a5⟩
  · rw [if_neg a1, if_pos a2]
    have k := ok_first hB y z
    exact res_ok hI k.1 k.2 (M_zero hy hz hB)
  · rw [if_pos a1, if_pos a2, if_neg (show ¬ (c >>> ((6 : Int32) &&& 31)) = 0 from by rw [a3]; decide), if_pos a3, T_hlt a4 a5, M_spent, M_shlt]
    refine ⟨c_7, inp, ins, cmd, due, q, fun _ => rfl, ⟨hB, hI.2.1, hI.2.2.1, ⟨fun _ => hj, hI.2.2.2.1.2⟩, hI.2.2.2.2⟩, Nat.le_succ q⟩
  · rw [if_pos a1, if_neg a2, if_neg a3, if_neg (show ¬ (c >>> ((6 : Int32) &&& 31)) = 0 from by rw [a4]; decide), if_pos a4, T_mov a5, M_spent, M_reg, M_setReg _ (value_B hB z)]
    exact res_ok hI (ok_setValue hB y (value_B hB z)) (c_if c_7 (c_if c_7 c_5)) rfl
  · rw [if_pos a1, if_neg a2, if_pos a3, if_neg a4, if_neg (show ¬ (c >>> ((6 : Int32) &&& 31)) = 0 from by rw [a5]; decide), if_neg (show ¬ (c >>> ((6 : Int32) &&& 31)) = 1 from by rw [a5]; decide), if_pos a5, M_spent, M_reg, M_reckon hy (hB.2.2.1 _) (value_B hB z)]
    exact res_ok hI (ok_acc hB (comb_B (hB.2.2.1 _) (value_B hB z))) (c_if c_7 c_4) rfl
  · rw [if_pos a1, if_neg a2, if_pos a3, if_pos a4, if_neg (show ¬ (c >>> ((6 : Int32) &&& 31)) = 0 from by rw [a5]; decide), if_neg (show ¬ (c >>> ((6 : Int32) &&& 31)) = 1 from by rw [a5]; decide), if_neg (show ¬ (c >>> ((6 : Int32) &&& 31)) = 2 from by rw [a5]; decide)]
    exact R_last hy hz hI hj hh
theorem nb_1 : (f_X4_nextByte (sPW_P_jon u false)).1 = (f_X4_nextByte u).1 := rfl
theorem nb_2 : (f_X4_nextByte (sPW_P_jon u false)).2 = sPW_P_jon (f_X4_nextByte u).2 false := rfl
theorem nb_B (h : InvB u) : isB (f_X4_nextByte u).1 := h.1 _
theorem X7i : f_X7_instruction (toM u t w inp ins cmd due) = f7 (toM (f_X4_nextByte (sPW_P_jon u false)).2 t w inp ins cmd due) (f_X4_nextByte (sPW_P_jon u false)).1 := by
  rw [X7i0, M_next, nb_1, nb_2, ← M_sjon]
/-- an instruction of the reference is one of the class -/
theorem R_inst (hI : Inv u inp ins cmd due q) (hh : gPW_P_hlt u = false) : Res t q (f_X7_instruction (toM u t w inp ins cmd due)) (f_X4_instruction u).1 (f_X4_instruction u).2 := by
  have hI1 : Inv (sPW_P_jon u false) inp ins cmd due q := ⟨hI.1, hI.2.1, hI.2.2.1, ⟨fun _ => rfl, hI.2.2.2.1.2⟩, hI.2.2.2.2⟩
  have o := ok_next hI1.1
  have hI2 := inv_ok hI1 o
  have h3 : gPW_P_jon (f_X4_nextByte (sPW_P_jon u false)).2 = false := o.2.2.2.2.2.trans rfl
  have h4 : gPW_P_hlt (f_X4_nextByte (sPW_P_jon u false)).2 = false := o.2.2.2.2.1.trans hh
  have h5 := nb_B hI1.1
  rw [X7i, X4i]
  exact R_core h5 hI2 h3 h4
end ONMB
