/-! instructions of the first quarter -/
theorem nb_byte {u : PW} (h : InvB u) : isB (f_X4_nextByte u).1 := h.1 _
theorem val_byte {u : PW} (h : InvB u) (k : Int32) : isB (f_X4_value u k) := by
  unfold f_X4_value
  by_cases c : k = (6 : Int32)
  · rw [if_pos c]; exact h.1 _
  · rw [if_neg c]; exact h.2.2.1 _
section ONM4
variable {u : PW} {t w : Int32} {inp : Nat → Int32} {ins cmd due : Int32}
theorem M_logicA (x : Int32) : f_X7_logic (toM u t w inp ins cmd due) (x &&& (255 : Int32)) = toM (sPW_F u (f_X3_setLogic (gPW_F u) (x &&& (255 : Int32)))) t w inp ins cmd due := M_logic (isB_and x)
theorem M_setRegA (k x : Int32) : f_X7_setReg (toM u t w inp ins cmd due) k (x &&& (255 : Int32)) = toM (f_X4_setValue u k (x &&& (255 : Int32))) t w inp ins cmd due := M_setReg k (isB_and x)
theorem M_byAddress {y : Int32} (h : vp_in y 8) : f_X7_byAddress (toM u t w inp ins cmd due) y = toM (f_X4_moveByAddress u y).2 t (f_X4_moveByAddress u y).1 inp ins cmd due := by
  unfold f_X7_byAddress
  simp only [M_nextWord]
  rcases in_cases8 h with rfl | rfl | rfl | rfl | rfl | rfl | rfl | rfl <;> rfl
theorem M_z1 {y : Int32} (h : vp_in y 8) : f_X7_zero (toM u t w inp ins cmd due) y 1 = toM (f_X4_setOrAddPair u y).2 t (f_X4_setOrAddPair u y).1 inp ins cmd due := by
  unfold f_X7_zero
  simp only [M_spent, M_nextWord]
  rcases in_cases8 h with rfl | rfl | rfl | rfl | rfl | rfl | rfl | rfl <;> rfl
theorem M_z3 {y : Int32} (h : vp_in y 8) : f_X7_zero (toM u t w inp ins cmd due) y 3 = toM (f_X4_stepPair u y).2 t (f_X4_stepPair u y).1 inp ins cmd due := by
  rcases in_cases8 h with rfl | rfl | rfl | rfl | rfl | rfl | rfl | rfl <;> rfl
theorem M_z4 {y : Int32} (h : vp_in y 8) : f_X7_zero (toM u t w inp ins cmd due) y 4 = toM (f_X4_firstQuarter u y 4).2 t (f_X4_firstQuarter u y 4).1 inp ins cmd due := by
  show f_X7_logic (f_X7_setReg (sMW_h (sMW_spent (toM u t w inp ins cmd due) (if y = (6 : Int32) then 10 else 5 : Int32)) (if (((f_X7_reg (sMW_spent (toM u t w inp ins cmd due) (if y = (6 : Int32) then 10 else 5 : Int32)) y) + (1 : Int32)) &&& (255 : Int32)) &&& (15 : Int32) = (0 : Int32) then true else false : Bool)) y (((f_X7_reg (sMW_spent (toM u t w inp ins cmd due) (if y = (6 : Int32) then 10 else 5 : Int32)) y) + (1 : Int32)) &&& (255 : Int32))) (((f_X7_reg (sMW_spent (toM u t w inp ins cmd due) (if y = (6 : Int32) then 10 else 5 : Int32)) y) + (1 : Int32)) &&& (255 : Int32)) = _
  rw [M_spent, M_reg, M_sh, M_setRegA, M_logicA]
  rcases in_cases8 h with rfl | rfl | rfl | rfl | rfl | rfl | rfl | rfl <;> rfl
theorem M_z5 {y : Int32} (h : vp_in y 8) : f_X7_zero (toM u t w inp ins cmd due) y 5 = toM (f_X4_firstQuarter u y 5).2 t (f_X4_firstQuarter u y 5).1 inp ins cmd due := by
  show f_X7_logic (f_X7_setReg (sMW_h (sMW_spent (toM u t w inp ins cmd due) (if y = (6 : Int32) then 10 else 5 : Int32)) (if (((f_X7_reg (sMW_spent (toM u t w inp ins cmd due) (if y = (6 : Int32) then 10 else 5 : Int32)) y) - (1 : Int32)) &&& (255 : Int32)) &&& (15 : Int32) = (15 : Int32) then false else true : Bool)) y (((f_X7_reg (sMW_spent (toM u t w inp ins cmd due) (if y = (6 : Int32) then 10 else 5 : Int32)) y) - (1 : Int32)) &&& (255 : Int32))) (((f_X7_reg (sMW_spent (toM u t w inp ins cmd due) (if y = (6 : Int32) then 10 else 5 : Int32)) y) - (1 : Int32)) &&& (255 : Int32)) = _
  rw [M_spent, M_reg, M_sh, M_setRegA, M_logicA]
  rcases in_cases8 h with rfl | rfl | rfl | rfl | rfl | rfl | rfl | rfl <;> rfl
theorem M_z6 {y : Int32} (hB : InvB u) : f_X7_zero (toM u t w inp ins cmd due) y 6 = toM (f_X4_firstQuarter u y 6).2 t (f_X4_firstQuarter u y 6).1 inp ins cmd due := by
  show f_X7_setReg (f_X7_next (sMW_spent (toM u t w inp ins cmd due) (if y = (6 : Int32) then 10 else 7 : Int32))).2 y (f_X7_next (sMW_spent (toM u t w inp ins cmd due) (if y = (6 : Int32) then 10 else 7 : Int32))).1 = _
  rw [M_spent, M_next]
  show f_X7_setReg (toM (f_X4_nextByte u).2 t (if y = (6 : Int32) then 10 else 7 : Int32) inp ins cmd due) y (f_X4_nextByte u).1 = _
  rw [M_setReg y (nb_byte hB)]
  rfl
theorem M_zero {y z : Int32} (h : vp_in y 8) (hz : vp_in z 8) (hB : InvB u) : f_X7_zero (toM u t w inp ins cmd due) y z = toM (f_X4_firstQuarter u y z).2 t (f_X4_firstQuarter u y z).1 inp ins cmd due := by
  rcases in_cases8 hz with rfl | rfl | rfl | rfl | rfl | rfl | rfl | rfl
  · rfl
  · exact M_z1 h
  · exact M_byAddress h
  · exact M_z3 h
  · exact M_z4 h
  · exact M_z5 h
  · exact M_z6 hB
  · show f_X7_turn (toM u t 4 inp ins cmd due) y = _
    rw [M_turn h (hB.2.2.1 _)]
    rfl
end ONM4
