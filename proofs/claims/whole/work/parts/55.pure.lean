section ONM6
variable {u : PW} {t w : Int32} {inp : Nat → Int32} {ins cmd due : Int32}
theorem M_xthl : f_X7_special (toM u t w inp ins cmd due) 4 = toM (f_X4_swapWithStack u).2 t (f_X4_swapWithStack u).1 inp ins cmd due := by
  unfold f_X7_special
  rw [if_pos (by decide), if_neg (by decide), if_neg (by decide), if_pos rfl, show (if (4 : Int32) ≤ (4 : Int32) then (if (4 : Int32) = (4 : Int32) then 18 else 4 : Int32) else 10 : Int32) = 18 from by decide, M_spent, M_gsp, M_hl, M_setWord, M_getWord, M_setPair]
  rfl
theorem M_di (hj : gPW_P_jon u = false) : f_X7_special (toM u t w inp ins cmd due) 6 = toM (sPW_P_on u false) t 4 inp ins cmd due := by
  unfold f_X7_special
  rw [if_pos (by decide), if_neg (by decide), if_neg (by decide), if_neg (by decide), if_neg (by decide), show (if (4 : Int32) ≤ (6 : Int32) then (if (6 : Int32) = (4 : Int32) then 18 else 4 : Int32) else 10 : Int32) = 4 from by decide, M_spent, show (if (6 : Int32) = (7 : Int32) then true else false : Bool) = false from by decide, M_son, M_sjon, jon_id (v := sPW_P_on u false) hj]
end ONM6
