/-! instructions of the last quarter but the ports -/
theorem upd_comm {f : Nat → Int32} {i j : Nat} (h : i ≠ j) (x y : Int32) : upd (upd f i x) j y = upd (upd f j y) i x := by
  funext k
  unfold upd
  by_cases h1 : k = j
  · rw [if_pos h1, if_neg (fun z => h (z.symm.trans h1)), if_pos h1]
  · rw [if_neg h1]
    by_cases h2 : k = i
    · rw [if_pos h2, if_pos h2]
    · rw [if_neg h2, if_neg h2, if_neg h1]
section ONM5
variable {u : PW} {t w : Int32} {inp : Nat → Int32} {ins cmd due : Int32}
theorem M_jump (b : Bool) : f_X7_jumpTo (toM u t w inp ins cmd due) b false 10 = toM (f_X4_jumpIf u b).2 t (f_X4_jumpIf u b).1 inp ins cmd due := by
  unfold f_X7_jumpTo
  simp only [M_nextWord]
  cases b <;> rfl
theorem M_call (b : Bool) : f_X7_jumpTo (toM u t w inp ins cmd due) b true (if (bI b) = (0 : Int32) then 11 else 17 : Int32) = toM (f_X4_callIf u b).2 t (f_X4_callIf u b).1 inp ins cmd due := by
  unfold f_X7_jumpTo
  simp only [M_nextWord]
  cases b <;> rfl
theorem M_t0 {y : Int32} (h : vp_in y 8) : f_X7_three (toM u t w inp ins cmd due) y 0 = toM (f_X4_returnIf u y).2 t (f_X4_returnIf u y).1 inp ins cmd due := by
  have e : ∀ w : Int32, f_X7_holds (toM u t w inp ins cmd due) y = f_X3_holds (gPW_F u) y := fun w => M_holds h
  unfold f_X7_three f_X4_returnIf
  rw [if_pos rfl, M_spent, e, e]
  cases f_X3_holds (gPW_F u) y <;> rfl
theorem M_t1 {y : Int32} (h : vp_in y 8) : f_X7_single (toM u t w inp ins cmd due) y = toM (f_X4_popOrReturn u y).2 t (f_X4_popOrReturn u y).1 inp ins cmd due := by
  rcases in_cases8 h with rfl | rfl | rfl | rfl | rfl | rfl | rfl | rfl <;> rfl
theorem M_t2 {y : Int32} (h : vp_in y 8) : f_X7_three (toM u t w inp ins cmd due) y 2 = toM (f_X4_lastQuarter u y 2).2 t (f_X4_lastQuarter u y 2).1 inp ins cmd due := by
  show f_X7_jumpTo (toM u t w inp ins cmd due) (f_X7_holds (toM u t w inp ins cmd due) y) false 10 = _
  rw [M_holds h, M_jump]
  rfl
theorem M_t4 {y : Int32} (h : vp_in y 8) : f_X7_three (toM u t w inp ins cmd due) y 4 = toM (f_X4_lastQuarter u y 4).2 t (f_X4_lastQuarter u y 4).1 inp ins cmd due := by
  show f_X7_jumpTo (toM u t w inp ins cmd due) (f_X7_holds (toM u t w inp ins cmd due) y) true (if (bI (f_X7_holds (toM u t w inp ins cmd due) y)) = (0 : Int32) then 11 else 17 : Int32) = _
  rw [M_holds h, M_call]
  rfl
theorem M_t6 {y : Int32} (h : vp_in y 8) (hB : InvB u) : f_X7_three (toM u t w inp ins cmd due) y 6 = toM (f_X4_lastQuarter u y 6).2 t (f_X4_lastQuarter u y 6).1 inp ins cmd due := by
  show f_X7_reckon (toM (f_X4_nextByte u).2 t 7 inp ins cmd due) y (f_X4_nextByte u).1 = _
  rw [M_reckon (u := (f_X4_nextByte u).2) h (hB.2.2.1 _) (nb_byte hB)]
  rfl
theorem M_t7 (y : Int32) : f_X7_three (toM u t w inp ins cmd due) y 7 = toM (f_X4_lastQuarter u y 7).2 t (f_X4_lastQuarter u y 7).1 inp ins cmd due := rfl
theorem M_xchg : f_X7_special (toM u t w inp ins cmd due) 5 = toM (f_X4_swapPairs u).2 t (f_X4_swapPairs u).1 inp ins cmd due := by
  show toM (sPW_P_r u (upd (upd (upd (upd (gPW_P_r u) 4 ((f_X4_pair u 1 >>> ((8 : Int32) &&& 31)) &&& (255 : Int32))) 5 (f_X4_pair u 1 &&& (255 : Int32))) 2 ((f_X4_pair u 2 >>> ((8 : Int32) &&& 31)) &&& (255 : Int32))) 3 (f_X4_pair u 2 &&& (255 : Int32)))) t 4 inp ins cmd due = toM (sPW_P_r u (upd (upd (upd (upd (gPW_P_r u) 2 ((f_X4_pair u 2 >>> ((8 : Int32) &&& 31)) &&& (255 : Int32))) 3 (f_X4_pair u 2 &&& (255 : Int32))) 4 ((f_X4_pair u 1 >>> ((8 : Int32) &&& 31)) &&& (255 : Int32))) 5 (f_X4_pair u 1 &&& (255 : Int32)))) t 4 inp ins cmd due
  rw [upd_comm (f := upd (gPW_P_r u) 4 _) (i := 5) (j := 2) (by decide), upd_comm (f := gPW_P_r u) (i := 4) (j := 2) (by decide), upd_comm (f := upd (upd (gPW_P_r u) 2 _) 4 _) (i := 5) (j := 3) (by decide), upd_comm (f := upd (gPW_P_r u) 2 _) (i := 4) (j := 3) (by decide)]
theorem jon_id {v : PW} (h : gPW_P_jon v = false) : sPW_P_jon v false = v := by
  obtain ⟨⟨a1, a2, a3, a4, a5, a6, a7, a8⟩, r⟩ := v
  change a6 = false at h
  subst h
  rfl
end ONM5
