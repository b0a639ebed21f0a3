/-! the decimal adjustment, and all of xx 0, z 7 -/
def adjR (a : Int32) (h c : Bool) : Int32 × Bool × Bool :=
  if (9 : Int32) < (a &&& (15 : Int32)) then
    (if (bI (if (9 : Int32) < (a >>> ((4 : Int32) &&& 31)) then true else (if (bI c) = (0 : Int32) then (if (a >>> ((4 : Int32) &&& 31)) = (9 : Int32) then (if (a &&& (15 : Int32)) ≤ (9 : Int32) then false else true : Bool) else false : Bool) else true : Bool) : Bool)) = (0 : Int32) then ((a + (6 : Int32)) &&& (255 : Int32), (if ((a &&& (15 : Int32)) + (6 : Int32)) ≤ (15 : Int32) then false else true : Bool), c) else (((a + (6 : Int32)) + (96 : Int32)) &&& (255 : Int32), (if ((a &&& (15 : Int32)) + (6 : Int32)) ≤ (15 : Int32) then false else true : Bool), true))
  else if (bI h) = (0 : Int32) then
    (if (bI (if (9 : Int32) < (a >>> ((4 : Int32) &&& 31)) then true else (if (bI c) = (0 : Int32) then (if (a >>> ((4 : Int32) &&& 31)) = (9 : Int32) then (if (a &&& (15 : Int32)) ≤ (9 : Int32) then false else true : Bool) else false : Bool) else true : Bool) : Bool)) = (0 : Int32) then (a &&& (255 : Int32), false, c) else ((a + (96 : Int32)) &&& (255 : Int32), false, true))
  else
    (if (bI (if (9 : Int32) < (a >>> ((4 : Int32) &&& 31)) then true else (if (bI c) = (0 : Int32) then (if (a >>> ((4 : Int32) &&& 31)) = (9 : Int32) then (if (a &&& (15 : Int32)) ≤ (9 : Int32) then false else true : Bool) else false : Bool) else true : Bool) : Bool)) = (0 : Int32) then ((a + (6 : Int32)) &&& (255 : Int32), (if ((a &&& (15 : Int32)) + (6 : Int32)) ≤ (15 : Int32) then false else true : Bool), c) else (((a + (6 : Int32)) + (96 : Int32)) &&& (255 : Int32), (if ((a &&& (15 : Int32)) + (6 : Int32)) ≤ (15 : Int32) then false else true : Bool), true))
def adjX (a : Int32) (h c : Bool) : Int32 × Bool × Bool :=
  (((a + (if (bI (if (9 : Int32) < (a &&& (15 : Int32)) then true else (if (bI h) = (0 : Int32) then false else true : Bool) : Bool)) = (0 : Int32) then 0 else 6 : Int32)) + (if (bI (if (9 : Int32) < (a >>> ((4 : Int32) &&& 31)) then true else (if (bI c) = (0 : Int32) then (if (a >>> ((4 : Int32) &&& 31)) = (9 : Int32) then (if (a &&& (15 : Int32)) ≤ (9 : Int32) then false else true : Bool) else false : Bool) else true : Bool) : Bool)) = (0 : Int32) then 0 else 96 : Int32)) &&& (255 : Int32), (if (bI (if (9 : Int32) < (a &&& (15 : Int32)) then true else (if (bI h) = (0 : Int32) then false else true : Bool) : Bool)) = (0 : Int32) then false else (if ((a &&& (15 : Int32)) + (6 : Int32)) ≤ (15 : Int32) then false else true : Bool) : Bool), (if (9 : Int32) < (a >>> ((4 : Int32) &&& 31)) then true else (if (bI c) = (0 : Int32) then (if (a >>> ((4 : Int32) &&& 31)) = (9 : Int32) then (if (a &&& (15 : Int32)) ≤ (9 : Int32) then false else true : Bool) else false : Bool) else true : Bool) : Bool))
theorem adj_same : ∀ n : Nat, n < 256 → ∀ h c : Bool, adjR (nI n) h c = adjX (nI n) h c := by decide +kernel
def decW (u : PW) (s : Int32 × Bool × Bool) : PW := accF u (s.1, f_X3_setLogic (sFS_c (sFS_h (gPW_F u) s.2.1) s.2.2) s.1)
theorem toDec_X (f : FS) (a : Int32) : f_X0_toDecimal f a = ((adjX a (gFS_h f) (gFS_c f)).1, f_X3_setLogic (sFS_c (sFS_h f (adjX a (gFS_h f) (gFS_c f)).2.1) (adjX a (gFS_h f) (gFS_c f)).2.2) (adjX a (gFS_h f) (gFS_c f)).1) := rfl
section ONM3
variable {u : PW} {t w : Int32} {inp : Nat → Int32} {ins cmd due : Int32}
theorem N_gr : gMW_r (toM u t w inp ins cmd due) = gPW_P_r u := Eq.trans M_gr (Eq.trans rfl rfl)
theorem N_gc : gMW_c (toM u t w inp ins cmd due) = gPW_F_c u := Eq.trans M_gc (Eq.trans rfl rfl)
theorem N_gh : gMW_h (toM u t w inp ins cmd due) = gPW_F_h u := Eq.trans M_gh (Eq.trans rfl rfl)
set_option maxHeartbeats 4000000 in
theorem M_adjust : f_X7_adjust (toM u t w inp ins cmd due) = toM (decW u (adjR ((gPW_P_r u) (7 : Int32).toNatClampNeg) (gPW_F_h u) (gPW_F_c u))) t w inp ins cmd due := by
  unfold f_X7_adjust adjR
  simp only [N_gr, N_gc, N_gh]
  by_cases c1 : (9 : Int32) < (((gPW_P_r u) (7 : Int32).toNatClampNeg) &&& (15 : Int32))
  · by_cases c3 : (bI (if (9 : Int32) < (((gPW_P_r u) (7 : Int32).toNatClampNeg) >>> ((4 : Int32) &&& 31)) then true else (if (bI (gPW_F_c u)) = (0 : Int32) then (if (((gPW_P_r u) (7 : Int32).toNatClampNeg) >>> ((4 : Int32) &&& 31)) = (9 : Int32) then (if (((gPW_P_r u) (7 : Int32).toNatClampNeg) &&& (15 : Int32)) ≤ (9 : Int32) then false else true : Bool) else false : Bool) else true : Bool) : Bool)) = (0 : Int32)
    · rw [if_pos c1, if_pos c1, if_pos c3, if_pos c3]
      simp only [M_sh, M_sc, M_sr, M_gr]
      exact (M_logic (isB_and _)).trans rfl
    · rw [if_pos c1, if_pos c1, if_neg c3, if_neg c3]
      simp only [M_sh, M_sc, M_sr, M_gr]
      exact (M_logic (isB_and _)).trans rfl
  · by_cases c2 : (bI (gPW_F_h u)) = (0 : Int32)
    · by_cases c3 : (bI (if (9 : Int32) < (((gPW_P_r u) (7 : Int32).toNatClampNeg) >>> ((4 : Int32) &&& 31)) then true else (if (bI (gPW_F_c u)) = (0 : Int32) then (if (((gPW_P_r u) (7 : Int32).toNatClampNeg) >>> ((4 : Int32) &&& 31)) = (9 : Int32) then (if (((gPW_P_r u) (7 : Int32).toNatClampNeg) &&& (15 : Int32)) ≤ (9 : Int32) then false else true : Bool) else false : Bool) else true : Bool) : Bool)) = (0 : Int32)
      · rw [if_neg c1, if_neg c1, if_pos c2, if_pos c2, if_pos c3, if_pos c3]
        simp only [M_sh, M_sc, M_sr, M_gr]
        exact (M_logic (isB_and _)).trans rfl
      · rw [if_neg c1, if_neg c1, if_pos c2, if_pos c2, if_neg c3, if_neg c3]
        simp only [M_sh, M_sc, M_sr, M_gr]
        exact (M_logic (isB_and _)).trans rfl
    · by_cases c3 : (bI (if (9 : Int32) < (((gPW_P_r u) (7 : Int32).toNatClampNeg) >>> ((4 : Int32) &&& 31)) then true else (if (bI (gPW_F_c u)) = (0 : Int32) then (if (((gPW_P_r u) (7 : Int32).toNatClampNeg) >>> ((4 : Int32) &&& 31)) = (9 : Int32) then (if (((gPW_P_r u) (7 : Int32).toNatClampNeg) &&& (15 : Int32)) ≤ (9 : Int32) then false else true : Bool) else false : Bool) else true : Bool) : Bool)) = (0 : Int32)
      · rw [if_neg c1, if_neg c1, if_neg c2, if_neg c2, if_pos c3, if_pos c3]
        simp only [M_sh, M_sc, M_sr, M_gr]
        exact (M_logic (isB_and _)).trans rfl
      · rw [if_neg c1, if_neg c1, if_neg c2, if_neg c2, if_neg c3, if_neg c3]
        simp only [M_sh, M_sc, M_sr, M_gr]
        exact (M_logic (isB_and _)).trans rfl
theorem M_turn {y : Int32} (h : vp_in y 8) (hr : isB ((gPW_P_r u) (7 : Int32).toNatClampNeg)) : f_X7_turn (toM u t w inp ins cmd due) y = toM (accF u (f_X0_adjust (gPW_F u) y ((gPW_P_r u) (7 : Int32).toNatClampNeg))) t w inp ins cmd due := by
  obtain ⟨n, hn, hR⟩ := isB_of hr
  have e1 : (if ((gPW_P_r u) (7 : Int32).toNatClampNeg) ≤ (127 : Int32) then false else true : Bool) = (if (((gPW_P_r u) (7 : Int32).toNatClampNeg) &&& (128 : Int32)) = (0 : Int32) then false else true : Bool) := by rw [hR]; exact lg_s n hn
  have e2 : (if (((gPW_P_r u) (7 : Int32).toNatClampNeg) &&& (1 : Int32)) = (1 : Int32) then true else false : Bool) = (if (((gPW_P_r u) (7 : Int32).toNatClampNeg) &&& (1 : Int32)) = (0 : Int32) then false else true : Bool) := by rw [hR]; exact rot_r n hn
  have e3 : (255 : Int32) - ((gPW_P_r u) (7 : Int32).toNatClampNeg) = ((gPW_P_r u) (7 : Int32).toNatClampNeg) ^^^ (255 : Int32) := by rw [hR]; exact cpl_b n hn
  have e4 : adjR ((gPW_P_r u) (7 : Int32).toNatClampNeg) (gPW_F_h u) (gPW_F_c u) = adjX ((gPW_P_r u) (7 : Int32).toNatClampNeg) (gPW_F_h u) (gPW_F_c u) := by rw [hR]; exact adj_same n hn _ _
  rcases in_cases8 h with rfl | rfl | rfl | rfl | rfl | rfl | rfl | rfl
  · show toM (sPW_P_r (sPW_F_c u (if ((gPW_P_r u) (7 : Int32).toNatClampNeg) ≤ (127 : Int32) then false else true : Bool)) (upd (gPW_P_r u) (7 : Int32).toNatClampNeg (((((gPW_P_r u) (7 : Int32).toNatClampNeg) <<< ((1 : Int32) &&& 31)) &&& (255 : Int32)) ||| (((gPW_P_r u) (7 : Int32).toNatClampNeg) >>> ((7 : Int32) &&& 31))))) t w inp ins cmd due = _
    rw [e1]; rfl
  · show toM (sPW_P_r (sPW_F_c u (if (((gPW_P_r u) (7 : Int32).toNatClampNeg) &&& (1 : Int32)) = (1 : Int32) then true else false : Bool)) (upd (gPW_P_r u) (7 : Int32).toNatClampNeg ((((gPW_P_r u) (7 : Int32).toNatClampNeg) >>> ((1 : Int32) &&& 31)) ||| ((((gPW_P_r u) (7 : Int32).toNatClampNeg) &&& (1 : Int32)) <<< ((7 : Int32) &&& 31))))) t w inp ins cmd due = _
    rw [e2]; rfl
  · show toM (sPW_P_r (sPW_F_c u (if ((gPW_P_r u) (7 : Int32).toNatClampNeg) ≤ (127 : Int32) then false else true : Bool)) (upd (gPW_P_r u) (7 : Int32).toNatClampNeg (((((gPW_P_r u) (7 : Int32).toNatClampNeg) <<< ((1 : Int32) &&& 31)) &&& (255 : Int32)) ||| (f_X3_carryBit (gPW_F u))))) t w inp ins cmd due = _
    rw [e1]; rfl
  · show toM (sPW_P_r (sPW_F_c u (if (((gPW_P_r u) (7 : Int32).toNatClampNeg) &&& (1 : Int32)) = (1 : Int32) then true else false : Bool)) (upd (gPW_P_r u) (7 : Int32).toNatClampNeg ((((gPW_P_r u) (7 : Int32).toNatClampNeg) >>> ((1 : Int32) &&& 31)) ||| ((f_X3_carryBit (gPW_F u)) <<< ((7 : Int32) &&& 31))))) t w inp ins cmd due = _
    rw [e2]; rfl
  · show f_X7_adjust (toM u t w inp ins cmd due) = toM (accF u ((f_X0_toDecimal (gPW_F u) ((gPW_P_r u) (7 : Int32).toNatClampNeg)).1, (f_X0_toDecimal (gPW_F u) ((gPW_P_r u) (7 : Int32).toNatClampNeg)).2)) t w inp ins cmd due
    rw [M_adjust, e4, toDec_X]; rfl
  · show toM (sPW_P_r u (upd (gPW_P_r u) (7 : Int32).toNatClampNeg ((255 : Int32) - ((gPW_P_r u) (7 : Int32).toNatClampNeg)))) t w inp ins cmd due = _
    rw [e3]; rfl
  · show toM (sPW_F_c u true) t w inp ins cmd due = toM (sPW_P_r (sPW_F_c u true) (upd (gPW_P_r u) (7 : Int32).toNatClampNeg ((gPW_P_r u) (7 : Int32).toNatClampNeg))) t w inp ins cmd due
    rw [upd_same]; rfl
  · show toM (sPW_F_c u (if (bI (gPW_F_c u)) = (0 : Int32) then true else false : Bool)) t w inp ins cmd due = toM (sPW_P_r (sPW_F_c u (if (bI (gPW_F_c u)) = (0 : Int32) then true else false : Bool)) (upd (gPW_P_r u) (7 : Int32).toNatClampNeg ((gPW_P_r u) (7 : Int32).toNatClampNeg))) t w inp ins cmd due
    rw [upd_same]; rfl
end ONM3
