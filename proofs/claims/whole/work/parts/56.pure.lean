section ONM7
variable {u : PW} {t w : Int32} {inp : Nat → Int32} {ins cmd due : Int32}
theorem M_p0 : f_X7_three (toM u t w inp ins cmd due) 0 5 = toM (f_X4_push u (f_X4_pair u ((0 : Int32) >>> ((1 : Int32) &&& 31)))) t 11 inp ins cmd due := by
  unfold f_X7_three
  rw [if_neg (by decide), if_neg (by decide), if_neg (by decide), if_neg (by decide), if_neg (by decide), if_pos rfl, if_pos (by decide), if_neg (by decide), M_spent, M_pair, M_push, show ((0 : Int32) / (2 : Int32)) = ((0 : Int32) >>> ((1 : Int32) &&& 31)) from by decide]
theorem M_p2 : f_X7_three (toM u t w inp ins cmd due) 2 5 = toM (f_X4_push u (f_X4_pair u ((2 : Int32) >>> ((1 : Int32) &&& 31)))) t 11 inp ins cmd due := by
  unfold f_X7_three
  rw [if_neg (by decide), if_neg (by decide), if_neg (by decide), if_neg (by decide), if_neg (by decide), if_pos rfl, if_pos (by decide), if_neg (by decide), M_spent, M_pair, M_push, show ((2 : Int32) / (2 : Int32)) = ((2 : Int32) >>> ((1 : Int32) &&& 31)) from by decide]
theorem M_p4 : f_X7_three (toM u t w inp ins cmd due) 4 5 = toM (f_X4_push u (f_X4_pair u ((4 : Int32) >>> ((1 : Int32) &&& 31)))) t 11 inp ins cmd due := by
  unfold f_X7_three
  rw [if_neg (by decide), if_neg (by decide), if_neg (by decide), if_neg (by decide), if_neg (by decide), if_pos rfl, if_pos (by decide), if_neg (by decide), M_spent, M_pair, M_push, show ((4 : Int32) / (2 : Int32)) = ((4 : Int32) >>> ((1 : Int32) &&& 31)) from by decide]
theorem M_p6 : f_X7_three (toM u t w inp ins cmd due) 6 5 = toM (f_X4_push u ((((gPW_P_r u) (7 : Int32).toNatClampNeg) <<< ((8 : Int32) &&& 31)) ||| (f_X3_packed (gPW_F u)))) t 11 inp ins cmd due := by
  unfold f_X7_three
  rw [if_neg (by decide), if_neg (by decide), if_neg (by decide), if_neg (by decide), if_neg (by decide), if_pos rfl, if_pos (by decide), if_pos rfl, M_spent, M_gr, M_flags, M_push]
theorem M_p1 : f_X7_three (toM u t w inp ins cmd due) 1 5 = toM (f_X4_callIf u true).2 t (f_X4_callIf u true).1 inp ins cmd due := by
  unfold f_X7_three
  rw [if_neg (by decide), if_neg (by decide), if_neg (by decide), if_neg (by decide), if_neg (by decide), if_pos rfl, if_neg (by decide)]
  exact M_call true
theorem M_p3 : f_X7_three (toM u t w inp ins cmd due) 3 5 = toM (f_X4_callIf u true).2 t (f_X4_callIf u true).1 inp ins cmd due := by
  unfold f_X7_three
  rw [if_neg (by decide), if_neg (by decide), if_neg (by decide), if_neg (by decide), if_neg (by decide), if_pos rfl, if_neg (by decide)]
  exact M_call true
theorem M_p5 : f_X7_three (toM u t w inp ins cmd due) 5 5 = toM (f_X4_callIf u true).2 t (f_X4_callIf u true).1 inp ins cmd due := by
  unfold f_X7_three
  rw [if_neg (by decide), if_neg (by decide), if_neg (by decide), if_neg (by decide), if_neg (by decide), if_pos rfl, if_neg (by decide)]
  exact M_call true
theorem M_p7 : f_X7_three (toM u t w inp ins cmd due) 7 5 = toM (f_X4_callIf u true).2 t (f_X4_callIf u true).1 inp ins cmd due := by
  unfold f_X7_three
  rw [if_neg (by decide), if_neg (by decide), if_neg (by decide), if_neg (by decide), if_neg (by decide), if_pos rfl, if_neg (by decide)]
  exact M_call true
theorem L_p0 : f_X4_lastQuarter u 0 5 = (11, f_X4_push u (f_X4_pair u ((0 : Int32) >>> ((1 : Int32) &&& 31)))) := by
  unfold f_X4_lastQuarter
  rw [if_neg (by decide), if_neg (by decide), if_neg (by decide), if_neg (by decide), if_neg (by decide), if_pos rfl, if_pos (by decide)]
  unfold f_X4_pushPair
  rw [if_neg (by decide)]
theorem L_p2 : f_X4_lastQuarter u 2 5 = (11, f_X4_push u (f_X4_pair u ((2 : Int32) >>> ((1 : Int32) &&& 31)))) := by
  unfold f_X4_lastQuarter
  rw [if_neg (by decide), if_neg (by decide), if_neg (by decide), if_neg (by decide), if_neg (by decide), if_pos rfl, if_pos (by decide)]
  unfold f_X4_pushPair
  rw [if_neg (by decide)]
theorem L_p4 : f_X4_lastQuarter u 4 5 = (11, f_X4_push u (f_X4_pair u ((4 : Int32) >>> ((1 : Int32) &&& 31)))) := by
  unfold f_X4_lastQuarter
  rw [if_neg (by decide), if_neg (by decide), if_neg (by decide), if_neg (by decide), if_neg (by decide), if_pos rfl, if_pos (by decide)]
  unfold f_X4_pushPair
  rw [if_neg (by decide)]
theorem L_p6 : f_X4_lastQuarter u 6 5 = (11, f_X4_push u ((((gPW_P_r u) (7 : Int32).toNatClampNeg) <<< ((8 : Int32) &&& 31)) ||| (f_X3_packed (gPW_F u)))) := by
  unfold f_X4_lastQuarter
  rw [if_neg (by decide), if_neg (by decide), if_neg (by decide), if_neg (by decide), if_neg (by decide), if_pos rfl, if_pos (by decide)]
  unfold f_X4_pushPair
  rw [if_pos rfl]
theorem L_p1 : f_X4_lastQuarter u 1 5 = ((f_X4_callIf u true).1, (f_X4_callIf u true).2) := by
  unfold f_X4_lastQuarter
  rw [if_neg (by decide), if_neg (by decide), if_neg (by decide), if_neg (by decide), if_neg (by decide), if_pos rfl, if_neg (by decide)]
theorem L_p3 : f_X4_lastQuarter u 3 5 = ((f_X4_callIf u true).1, (f_X4_callIf u true).2) := by
  unfold f_X4_lastQuarter
  rw [if_neg (by decide), if_neg (by decide), if_neg (by decide), if_neg (by decide), if_neg (by decide), if_pos rfl, if_neg (by decide)]
theorem L_p5 : f_X4_lastQuarter u 5 5 = ((f_X4_callIf u true).1, (f_X4_callIf u true).2) := by
  unfold f_X4_lastQuarter
  rw [if_neg (by decide), if_neg (by decide), if_neg (by decide), if_neg (by decide), if_neg (by decide), if_pos rfl, if_neg (by decide)]
theorem L_p7 : f_X4_lastQuarter u 7 5 = ((f_X4_callIf u true).1, (f_X4_callIf u true).2) := by
  unfold f_X4_lastQuarter
  rw [if_neg (by decide), if_neg (by decide), if_neg (by decide), if_neg (by decide), if_neg (by decide), if_pos rfl, if_neg (by decide)]
theorem M_t5 {y : Int32} (h : vp_in y 8) : f_X7_three (toM u t w inp ins cmd due) y 5 = toM (f_X4_lastQuarter u y 5).2 t (f_X4_lastQuarter u y 5).1 inp ins cmd due := by
  rcases in_cases8 h with rfl | rfl | rfl | rfl | rfl | rfl | rfl | rfl
  · rw [L_p0]; exact M_p0
  · rw [L_p1]; exact M_p1
  · rw [L_p2]; exact M_p2
  · rw [L_p3]; exact M_p3
  · rw [L_p4]; exact M_p4
  · rw [L_p5]; exact M_p5
  · rw [L_p6]; exact M_p6
  · rw [L_p7]; exact M_p7
theorem T3 (y : Int32) : f_X7_three (toM u t w inp ins cmd due) y 3 = f_X7_special (toM u t w inp ins cmd due) y := by
  unfold f_X7_three
  rw [if_neg (by decide), if_neg (by decide), if_neg (by decide), if_pos rfl]
theorem L3a {y : Int32} (h : ¬ (2 : Int32) ≤ y) : f_X4_lastQuarter u y 3 = ((f_X4_jumpIf u true).1, (f_X4_jumpIf u true).2) := by
  unfold f_X4_lastQuarter
  rw [if_neg (by decide), if_neg (by decide), if_neg (by decide), if_pos rfl, if_neg h]
theorem L3b {y : Int32} (h : (2 : Int32) ≤ y) : f_X4_lastQuarter u y 3 = ((f_X4_portOrExchange u y).1, (f_X4_portOrExchange u y).2) := by
  unfold f_X4_lastQuarter
  rw [if_neg (by decide), if_neg (by decide), if_neg (by decide), if_pos rfl, if_pos h]
theorem M_jmp0 : f_X7_special (toM u t w inp ins cmd due) 0 = toM (f_X4_jumpIf u true).2 t (f_X4_jumpIf u true).1 inp ins cmd due := by
  unfold f_X7_special
  rw [if_neg (by decide), show (if (4 : Int32) ≤ (0 : Int32) then (if (0 : Int32) = (4 : Int32) then 18 else 4 : Int32) else 10 : Int32) = 10 from by decide, M_spent, M_nextWord]
  rfl
theorem M_jmp1 : f_X7_special (toM u t w inp ins cmd due) 1 = toM (f_X4_jumpIf u true).2 t (f_X4_jumpIf u true).1 inp ins cmd due := by
  unfold f_X7_special
  rw [if_neg (by decide), show (if (4 : Int32) ≤ (1 : Int32) then (if (1 : Int32) = (4 : Int32) then 18 else 4 : Int32) else 10 : Int32) = 10 from by decide, M_spent, M_nextWord]
  rfl
theorem M_ei : f_X7_special (toM u t w inp ins cmd due) 7 = toM (sPW_P_jon (sPW_P_on u true) true) t 4 inp ins cmd due := by
  unfold f_X7_special
  rw [if_pos (by decide), if_neg (by decide), if_neg (by decide), if_neg (by decide), if_neg (by decide), show (if (4 : Int32) ≤ (7 : Int32) then (if (7 : Int32) = (4 : Int32) then 18 else 4 : Int32) else 10 : Int32) = 4 from by decide, M_spent, show (if (7 : Int32) = (7 : Int32) then true else false : Bool) = true from by decide, M_son, M_sjon]
theorem X4x : f_X4_portOrExchange u 4 = ((f_X4_swapWithStack u).1, (f_X4_swapWithStack u).2) := by
  unfold f_X4_portOrExchange
  rw [if_neg (by decide), if_neg (by decide), if_pos rfl]
theorem X5x : f_X4_portOrExchange u 5 = ((f_X4_swapPairs u).1, (f_X4_swapPairs u).2) := by
  unfold f_X4_portOrExchange
  rw [if_neg (by decide), if_neg (by decide), if_neg (by decide), if_pos rfl]
theorem X6x : f_X4_portOrExchange u 6 = (4, (sPW_P_on u false)) := by
  unfold f_X4_portOrExchange
  rw [if_neg (by decide), if_neg (by decide), if_neg (by decide), if_neg (by decide), if_pos rfl]
theorem X7x : f_X4_portOrExchange u 7 = (4, (sPW_P_jon (sPW_P_on u true) true)) := by
  unfold f_X4_portOrExchange
  rw [if_neg (by decide), if_neg (by decide), if_neg (by decide), if_neg (by decide), if_neg (by decide)]
/-- the last quarter, where no port is touched -/
theorem M_three {y z : Int32} (h : vp_in y 8) (hz : vp_in z 8) (hB : InvB u) (hj : gPW_P_jon u = false) (hp : ¬ (z = 3 ∧ (y = 2 ∨ y = 3))) : f_X7_three (toM u t w inp ins cmd due) y z = toM (f_X4_lastQuarter u y z).2 t (f_X4_lastQuarter u y z).1 inp ins cmd due := by
  rcases in_cases8 hz with rfl | rfl | rfl | rfl | rfl | rfl | rfl | rfl
  · rw [show f_X4_lastQuarter u y 0 = ((f_X4_returnIf u y).1, (f_X4_returnIf u y).2) from if_pos rfl]; exact M_t0 h
  · rw [show f_X4_lastQuarter u y 1 = ((f_X4_popOrReturn u y).1, (f_X4_popOrReturn u y).2) from by unfold f_X4_lastQuarter; rw [if_neg (by decide), if_pos rfl], show f_X7_three (toM u t w inp ins cmd due) y 1 = f_X7_single (toM u t w inp ins cmd due) y from by unfold f_X7_three; rw [if_neg (by decide), if_pos rfl]]; exact M_t1 h
  · exact M_t2 h
  · rw [T3]
    rcases in_cases8 h with rfl | rfl | rfl | rfl | rfl | rfl | rfl | rfl
    · rw [L3a (by decide)]; exact M_jmp0
    · rw [L3a (by decide)]; exact M_jmp1
    · exact absurd ⟨rfl, Or.inl rfl⟩ hp
    · exact absurd ⟨rfl, Or.inr rfl⟩ hp
    · rw [L3b (by decide), X4x]; exact M_xthl
    · rw [L3b (by decide), X5x]; exact M_xchg
    · rw [L3b (by decide), X6x]; exact M_di hj
    · rw [L3b (by decide), X7x]; exact M_ei
  · exact M_t4 h
  · exact M_t5 h
  · exact M_t6 h hB
  · exact M_t7 y
end ONM7
