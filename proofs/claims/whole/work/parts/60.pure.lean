section ONMA
variable {v : PW} {t w : Int32} {inp : Nat → Int32} {ins cmd due : Int32} {q : Nat}
theorem P_out {a b : Int32} (h : Inv v inp ins cmd due q) (hb : isB b) : Res t q (f_X7_out (toM v t 10 inp ins cmd due) a b) 10 (f_X4_sendToPort v a b) := by
  have h' := h
  obtain ⟨hB, hC, hK, hP, ho, hJ⟩ := h
  unfold f_X4_sendToPort
  by_cases c1 : a = 1
  · subst c1
    have e (hq : q < 2 ^ 30) : gPW_C_oc v - gPW_C_oc v / (256 : Int32) * (256 : Int32) = gPW_C_oc v &&& 255 := by
      rw [ho, show (256 : Int32) = nI 256 from rfl, pk_rem (by omega) (by decide) (by decide), pk_andN (by omega) (m := 255) 8 (by decide)]
    rw [if_pos rfl]
    refine ⟨c_10, inp, ins, cmd, due, q + 1, fun hq => M_o1 (e hq), ⟨hB, hC, hK, hP, ?_, hJ⟩, Nat.le_refl _⟩
    show gPW_C_oc v + 1 = _
    rw [ho, nI_1]
  rw [if_neg c1]
  by_cases c2 : a = 2
  · subst c2
    rw [if_pos rfl, M_o2]
    exact ⟨c_10, inp, ins, cmd, due, q, fun _ => rfl, ⟨⟨hB.1, hB.2.1, hB.2.2.1, hB.2.2.2.1, hB.2.2.2.2.1, hB.2.2.2.2.2.1, hb, hB.2.2.2.2.2.2.2⟩, hC, hK, hP, ho, hJ⟩, Nat.le_succ q⟩
  rw [if_neg c2]
  by_cases c3 : a = 3
  · subst c3
    rw [if_pos rfl, M_o3]
    exact ⟨c_10, inp, ins, cmd, due, q, fun _ => rfl, ⟨hB, hC, hK, hP, ho, hJ⟩, Nat.le_succ q⟩
  rw [if_neg c3]
  by_cases c4 : a = 4
  · subst c4
    rw [if_pos rfl, M_o4]
    exact ⟨c_10, inp, ins, cmd, due, q, fun _ => rfl, ⟨hB, hC, hK, hP, ho, hJ⟩, Nat.le_succ q⟩
  rw [if_neg c4]
  by_cases c5 : a = 5
  · subst c5
    rw [if_pos rfl, M_o5]
    exact ⟨c_10, inp, ins, cmd, due, q, fun _ => rfl, ⟨hB, hC, hK, hP, ho, hJ⟩, Nat.le_succ q⟩
  rw [if_neg c5]
  by_cases c6 : a = 6
  · subst c6
    rw [if_pos rfl]
    exact P_cmd h'
  rw [if_neg c6]
  unfold f_X7_out
  rw [if_neg c1, if_neg c2, if_neg c3, if_neg c4, if_neg c5, if_neg c6]
  exact ⟨c_10, inp, ins, cmd, due, q, fun _ => rfl, h', Nat.le_succ q⟩
theorem P_in {a : Int32} (h : Inv v inp ins cmd due q) : ∃ (inp' : Nat → Int32) (ins' : Int32), f_X7_in (toM v t w inp ins cmd due) a = ((f_X4_takeFromPort v a).1, toM (f_X4_takeFromPort v a).2 t w inp' ins' cmd due) ∧ Inv (f_X4_takeFromPort v a).2 inp' ins' cmd due q ∧ isB (f_X4_takeFromPort v a).1 := by
  have h' := h
  obtain ⟨hB, hC, hK, hP, ho, hJ⟩ := h
  unfold f_X4_takeFromPort f_X7_in
  by_cases c0 : a = 0
  · rw [if_pos c0, if_pos c0]
    obtain ⟨i, j, hi, hj, e1, e2, e3, e4⟩ := hC
    refine ⟨inp, ins, ?_, h', ?_⟩
    · have e5 : (if (gMW_ins (toM v t w inp ins cmd due)) ≤ 0 then false else true : Bool) = (if (bI (f_X1_hasInput (gPW_C v))) = (0 : Int32) then false else true : Bool) := by
        unfold f_X1_hasInput
        rw [show gMW_ins (toM v t w inp ins cmd due) = nI j from e3, show gCS_cnt (gPW_C v) = nI j from e2]
        by_cases z : nI j ≤ 0
        · rw [if_pos z, if_pos (by decide)]
        · rw [if_neg z, if_neg (by decide)]
      rw [e5]
    · show isB (bI _)
      cases (if (bI (f_X1_hasInput (gPW_C v))) = (0 : Int32) then false else true : Bool)
      · unfold isB; decide
      · unfold isB; decide
  rw [if_neg c0, if_neg c0]
  by_cases c1 : a = 1
  · rw [if_pos c1, if_pos c1]
    obtain ⟨i, j, hi, hj, e1, e2, e3, e4⟩ := hC
    unfold f_X1_nextInput
    have e3' : gMW_ins (toM v t w inp ins cmd due) = nI j := e3
    have e3'' : gMW_ins (sMW_inp (toM v t w inp ins cmd due) (shf (gMW_inp (toM v t w inp ins cmd due)) ((nI j).toNatClampNeg - 1))) = nI j := e3
    rw [e3', e3'', nI_clamp (by omega), show gCS_cnt (gPW_C v) = nI j from e2]
    by_cases z : j = 0
    · subst z
      rw [if_pos (show nI 0 = (0 : Int32) from rfl), if_pos (show nI 0 ≤ (0 : Int32) from by decide), if_pos (show nI 0 ≤ (0 : Int32) from by decide)]
      have e6 : ins = 0 := e3
      subst e6
      refine ⟨inp, 0, rfl, h', ?_⟩
      show isB (0 : Int32)
      unfold isB; decide
    · rw [if_neg (nI_ne0 (by omega) (by omega)), if_neg (nI_nle (by omega) (by omega)), if_neg (nI_nle (by omega) (by omega))]
      obtain ⟨l, rfl⟩ : ∃ l, j = l + 1 := ⟨j - 1, by omega⟩
      rw [nI_pred, show l + 1 - 1 = l from rfl]
      refine ⟨shf inp l, nI l, ?_, ⟨⟨hB.1, hB.2.1, hB.2.2.1, hB.2.2.2.1, hB.2.2.2.2⟩, ⟨(i + 1) % 64, l, Nat.mod_lt _ (by decide), by omega, ?_, ?_, rfl, ?_⟩, hK, hP, ho, hJ⟩, hB.2.2.2.1 _⟩
      · refine Prod.ext ?_ rfl
        show inp 0 = gPW_C_inp v (gPW_C_fst v).toNatClampNeg
        rw [e4 0 (by omega), e1, nI_clamp (by omega), Nat.add_zero, Nat.mod_eq_of_lt hi]
      · show (gPW_C_fst v + 1) - (gPW_C_fst v + 1) / (64 : Int32) * (64 : Int32) = _
        rw [e1, nI_1, show (64 : Int32) = nI 64 from rfl, pk_rem (by omega) (by decide) (by decide)]
      · show gPW_C_cnt v - 1 = _
        rw [e2, nI_pred]
      · intro k hk
        show shf inp l k = gPW_C_inp v (((i + 1) % 64 + k) % 64)
        rw [shf_at, if_pos hk, e4 (k + 1) (by omega)]
        congr 1
        omega
  rw [if_neg c1, if_neg c1]
  by_cases c6 : a = 6
  · rw [if_pos c6, if_pos c6]
    have b := st_bits hB.2.2.2.2.2.2.2
    refine ⟨inp, ins, rfl, ⟨⟨hB.1, hB.2.1, hB.2.2.1, hB.2.2.2.1, hB.2.2.2.2.1, hB.2.2.2.2.2.1, hB.2.2.2.2.2.2.1, b.2.2.2.2.2.1⟩, ⟨hC, ?_, hP, ho, ?_⟩⟩, ?_⟩
    · intro k
      have k' : (gPW_K_st v &&& 1) &&& 1 = 1 := k
      rw [b.2.1] at k'
      exact hK k'
    · intro k
      show (gPW_K_st v &&& 1) &&& 1 = 1
      rw [b.2.1]; exact hJ k
    · show isB (gPW_K_st v)
      unfold isB
      rcases in_cases8 hB.2.2.2.2.2.2.2 with e | e | e | e | e | e | e | e <;> rw [e] <;> decide
  rw [if_neg c6, if_neg c6]
  exact ⟨inp, ins, rfl, h', show isB (255 : Int32) from by unfold isB; decide⟩
theorem M_s2 : f_X7_special (toM v t w inp ins cmd due) 2 = f_X7_out (toM (f_X4_nextByte v).2 t 10 inp ins cmd due) (f_X4_nextByte v).1 ((gPW_P_r (f_X4_nextByte v).2) (7 : Int32).toNatClampNeg) := by
  unfold f_X7_special
  rw [if_pos (by decide), if_pos rfl, show (if (4 : Int32) ≤ (2 : Int32) then (if (2 : Int32) = (4 : Int32) then 18 else 4 : Int32) else 10 : Int32) = 10 from by decide, M_spent, M_next]
  rfl
theorem M_s3 : f_X7_special (toM v t w inp ins cmd due) 3 = sMW_r (f_X7_in (toM (f_X4_nextByte v).2 t 10 inp ins cmd due) (f_X4_nextByte v).1).2 (upd (gMW_r (f_X7_in (toM (f_X4_nextByte v).2 t 10 inp ins cmd due) (f_X4_nextByte v).1).2) (7 : Int32).toNatClampNeg (f_X7_in (toM (f_X4_nextByte v).2 t 10 inp ins cmd due) (f_X4_nextByte v).1).1) := by
  unfold f_X7_special
  rw [if_pos (by decide), if_neg (by decide), if_pos rfl, show (if (4 : Int32) ≤ (3 : Int32) then (if (3 : Int32) = (4 : Int32) then 18 else 4 : Int32) else 10 : Int32) = 10 from by decide, M_spent, M_next]
theorem X2x : f_X4_portOrExchange v 2 = (10, (f_X4_sendToPort (f_X4_nextByte v).2 (f_X4_nextByte v).1 ((gPW_P_r (f_X4_nextByte v).2) (7 : Int32).toNatClampNeg))) := by
  unfold f_X4_portOrExchange
  rw [if_pos rfl]
theorem X3x : f_X4_portOrExchange v 3 = (10, (sPW_P_r (f_X4_takeFromPort (f_X4_nextByte v).2 (f_X4_nextByte v).1).2 (upd (gPW_P_r (f_X4_takeFromPort (f_X4_nextByte v).2 (f_X4_nextByte v).1).2) (7 : Int32).toNatClampNeg (f_X4_takeFromPort (f_X4_nextByte v).2 (f_X4_nextByte v).1).1))) := by
  unfold f_X4_portOrExchange
  rw [if_neg (by decide), if_pos rfl]
/-- the last quarter, whole -/
theorem R_last {y z : Int32} (h : vp_in y 8) (hz : vp_in z 8) (hI : Inv v inp ins cmd due q) (hj : gPW_P_jon v = false) (hh : gPW_P_hlt v = false) : Res t q (f_X7_three (toM v t w inp ins cmd due) y z) (f_X4_lastQuarter v y z).1 (f_X4_lastQuarter v y z).2 := by
  have hB := hI.1
  by_cases p : z = 3 ∧ (y = 2 ∨ y = 3 ∨ y = 7)
  · obtain ⟨rfl, p⟩ := p
    rw [T3]
    rcases p with rfl | rfl | rfl
    · rw [L3b (by decide), X2x, M_s2]
      exact P_out (inv_ok hI (ok_next hB)) ((ok_next hB).1.2.2.1 _)
    · rw [L3b (by decide), X3x, M_s3]
      obtain ⟨inp', ins', e, hI', hb⟩ := P_in (t := t) (w := 10) (a := (f_X4_nextByte v).1) (inv_ok hI (ok_next hB))
      rw [e]
      exact res_ok hI' (ok_r hI'.1 _ hb) c_10 (M_sr _)
    · rw [L3b (by decide), X7x, M_ei]
      refine ⟨c_4, inp, ins, cmd, due, q, fun _ => rfl, ⟨hB, hI.2.1, hI.2.2.1, ⟨?_, hI.2.2.2.1.2⟩, hI.2.2.2.2⟩, Nat.le_succ q⟩
      intro k
      have k' : gPW_P_hlt v = true := k
      rw [hh] at k'
      exact absurd k' (by decide)
  · have o := ok_last hB h p
    exact res_ok hI o.1 o.2 (M_three h hz hB hj (fun x => p ⟨x.1, x.2.elim Or.inl (fun k => Or.inr (Or.inl k))⟩))
end ONMA
