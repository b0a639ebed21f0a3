/-! one turn, whole; then many -/
def trn (x : Int32 × PW) : Int32 × PW := (x.1, fin (sPW_P_cyc x.2 ((gPW_P_cyc x.2) + (x.1 : Int32).toInt64)) x.1)
theorem leaf (v : PW) (c : Int32) : (if (f_X2_letPass (gPW_KW v) c).1 = ((-1) : Int32) then (c, (sPW_KW v (f_X2_letPass (gPW_KW v) c).2)) else (c, (sPW_P_want (sPW_KW v (f_X2_letPass (gPW_KW v) c).2) (f_X2_letPass (gPW_KW v) c).1))) = (c, fin v c) := by
  unfold fin
  by_cases h : (f_X2_letPass (gPW_KW v) c).1 = ((-1) : Int32)
  · rw [if_pos h, if_pos h]
  · rw [if_neg h, if_neg h]
def prc (u : PW) : Int32 × PW :=
  if (gPW_P_want u) = ((-1) : Int32) then (if (bI (gPW_P_hlt u)) = (0 : Int32) then f_X4_instruction u else (4, u))
  else
    if (bI (gPW_P_on u)) = (0 : Int32) then (if (bI (gPW_P_hlt u)) = (0 : Int32) then f_X4_instruction u else (4, u))
    else
      if (bI (gPW_P_jon u)) = (0 : Int32) then f_X4_answerInterrupt u
      else (if (bI (gPW_P_hlt u)) = (0 : Int32) then f_X4_instruction u else (4, u))
theorem turn_eq (u : PW) : f_X4_turn u = trn (prc u) := by
  have l1 := leaf (sPW_P_cyc (f_X4_instruction u).2 ((gPW_P_cyc (f_X4_instruction u).2) + ((f_X4_instruction u).1 : Int32).toInt64)) (f_X4_instruction u).1
  have l2 := leaf (sPW_P_cyc u ((gPW_P_cyc u) + (4 : Int32).toInt64)) 4
  have l3 := leaf (sPW_P_cyc (f_X4_answerInterrupt u).2 ((gPW_P_cyc (f_X4_answerInterrupt u).2) + ((f_X4_answerInterrupt u).1 : Int32).toInt64)) (f_X4_answerInterrupt u).1
  unfold f_X4_turn prc
  rw [l1, l2, l3]
  unfold trn
  by_cases a : (gPW_P_want u) = ((-1) : Int32)
  · rw [if_pos a, if_pos a]
    by_cases b : (bI (gPW_P_hlt u)) = (0 : Int32)
    · rw [if_pos b, if_pos b]
    · rw [if_neg b, if_neg b]
  rw [if_neg a, if_neg a]
  by_cases c : (bI (gPW_P_on u)) = (0 : Int32)
  · rw [if_pos c, if_pos c]
    by_cases b : (bI (gPW_P_hlt u)) = (0 : Int32)
    · rw [if_pos b, if_pos b]
    · rw [if_neg b, if_neg b]
  rw [if_neg c, if_neg c]
  by_cases d : (bI (gPW_P_jon u)) = (0 : Int32)
  · rw [if_pos d, if_pos d]
  rw [if_neg d, if_neg d]
  by_cases b : (bI (gPW_P_hlt u)) = (0 : Int32)
  · rw [if_pos b, if_pos b]
  · rw [if_neg b, if_neg b]
section ONME
variable {u : PW} {t w : Int32} {inp : Nat → Int32} {ins cmd due : Int32} {q : Nat}
theorem R_exec (hI : Inv u inp ins cmd due q) : Res t q (if (bI (gPW_P_hlt u)) = (0 : Int32) then (f_X7_instruction (toM u t w inp ins cmd due)) else (sMW_jon (sMW_spent (toM u t w inp ins cmd due) 4) false)) (if (bI (gPW_P_hlt u)) = (0 : Int32) then f_X4_instruction u else (4, u)).1 (if (bI (gPW_P_hlt u)) = (0 : Int32) then f_X4_instruction u else (4, u)).2 := by
  by_cases b : (bI (gPW_P_hlt u)) = (0 : Int32)
  · rw [if_pos b, if_pos b]
    exact R_inst hI ((bI_eq0 _).mp b)
  · rw [if_neg b, if_neg b]
    have h1 : gPW_P_hlt u = true := by
      cases e : gPW_P_hlt u
      · rw [e] at b; exact absurd rfl b
      · rfl
    have hj := hI.2.2.2.1.1 h1
    refine ⟨c_4, inp, ins, cmd, due, q, fun _ => ?_, hI, Nat.le_succ q⟩
    rw [M_spent, ← hj]
    rfl
theorem push_want (v : PW) (x y : Int32) : f_X4_push (sPW_P_want v x) y = sPW_P_want (f_X4_push v y) x := rfl
theorem R_ans (hI : Inv u inp ins cmd due q) (hw : vp_in (gPW_P_want u) 8) : Res t q (sMW_want (sMW_pc (f_X7_push (sMW_hlt (sMW_on (sMW_spent (toM u t w inp ins cmd due) 11) false) false) (gMW_pc (sMW_hlt (sMW_on (sMW_spent (toM u t w inp ins cmd due) 11) false) false))) ((8 : Int32) * (gMW_want (f_X7_push (sMW_hlt (sMW_on (sMW_spent (toM u t w inp ins cmd due) 11) false) false) (gMW_pc (sMW_hlt (sMW_on (sMW_spent (toM u t w inp ins cmd due) 11) false) false)))))) (-1)) (f_X4_answerInterrupt u).1 (f_X4_answerInterrupt u).2 := by
  have hA : Inv (sPW_P_hlt (sPW_P_on (sPW_P_want u (-1)) false) false) inp ins cmd due q := ⟨hI.1, hI.2.1, hI.2.2.1, ⟨fun b => absurd (show false = true from b) (by decide), Or.inl rfl⟩, hI.2.2.2.2⟩
  refine res_ok hA (ok_rst hA.1 hw _) c_11 ?_
  rw [M_spent, M_son, M_shlt, M_gpc, M_push]
  have ew : gMW_want (toM (f_X4_push (sPW_P_hlt (sPW_P_on u false) false) (gPW_P_pc (sPW_P_hlt (sPW_P_on u false) false))) t 11 inp ins cmd due) = gPW_P_want u := rfl
  unfold f_X4_answerInterrupt
  rw [ew, M_spc, M_swant, show sPW_P_hlt (sPW_P_on (sPW_P_want u (-1)) false) false = sPW_P_want (sPW_P_hlt (sPW_P_on u false) false) (-1) from rfl, push_want]
  rfl
theorem R_pre (hI : Inv u inp ins cmd due q) : Res t q (f_X7_pre (toM u t w inp ins cmd due)) (prc u).1 (prc u).2 := by
  have e := R_exec (t := t) (w := w) hI
  have hw := hI.2.2.2.1.2
  unfold f_X7_pre prc
  rw [show gMW_want (toM u t w inp ins cmd due) = gPW_P_want u from rfl, show gMW_hlt (toM u t w inp ins cmd due) = gPW_P_hlt u from rfl, show gMW_on (toM u t w inp ins cmd due) = gPW_P_on u from rfl, show gMW_jon (toM u t w inp ins cmd due) = gPW_P_jon u from rfl]
  rcases hw with hw | hw
  · rw [if_pos (show gPW_P_want u < (0 : Int32) from by rw [hw]; decide), if_pos hw]
    exact e
  have n1 : ¬ gPW_P_want u < (0 : Int32) := by
    obtain ⟨j, hj, ej⟩ := vp_in_of hw (by decide)
    rw [ej]
    exact nI_pos (by omega)
  rw [if_neg n1, if_neg (not_m1 hw)]
  by_cases c : (bI (gPW_P_on u)) = (0 : Int32)
  · rw [if_pos c, if_pos c]
    exact e
  rw [if_neg c, if_neg c]
  by_cases d : (bI (gPW_P_jon u)) = (0 : Int32)
  · rw [if_pos d, if_pos d]
    exact R_ans hI hw
  rw [if_neg d, if_neg d]
  exact e
/-- a turn of the reference is one of the class; the invariants hold at any count of the output -/
theorem R_turn (hI : Inv u inp ins cmd due q) : ∃ (inp' : Nat → Int32) (ins' cmd' due' : Int32) (q' : Nat), (q < 2 ^ 30 → f_X7_body (toM u t w inp ins cmd due) = toM (f_X4_turn u).2 t (f_X4_turn u).1 inp' ins' cmd' due' ∧ mOK (toM u t w inp ins cmd due)) ∧ Inv (f_X4_turn u).2 inp' ins' cmd' due' q' ∧ gPW_K_just (f_X4_turn u).2 = false ∧ q' ≤ q + 1 := by
  obtain ⟨hc, inp1, ins1, cmd1, due1, q1, e1, hI1, hq1⟩ := R_pre (t := t) (w := w) hI
  obtain ⟨due', p1, p2, p3⟩ := R_pass (t := t) hI1 hc
  rw [turn_eq]
  refine ⟨inp1, ins1, cmd1, due', q1, fun hq => ?_, p2, p3, hq1⟩
  have eb : f_X7_body (toM u t w inp ins cmd due) = toM (trn (prc u)).2 t (trn (prc u)).1 inp1 ins1 cmd1 due' := by
    unfold f_X7_body
    rw [e1 hq]
    exact p1
  refine ⟨eb, ?_, ?_, ?_, ?_⟩
  · obtain ⟨i, j, hi, hj, _, _, e3, _⟩ := hI.2.1
    exact ⟨j, hj, e3⟩
  · show ¬ gPW_C_oc u < 0
    rw [hI.2.2.2.2.1]
    exact nI_pos (by omega)
  · rw [e1 hq]
    intro b
    exact (hI1.2.2.1 b).1
  · rw [eb]
    rfl
theorem R_it (t w : Int32) (hI : Inv u inp ins cmd due q) (hj : gPW_K_just u = false) : ∀ z : Nat, ∃ (w' : Int32) (inp' : Nat → Int32) (ins' cmd' due' : Int32) (q' : Nat), (q + z < 2 ^ 30 → mit z (toM u t w inp ins cmd due) = ((cit z u).1, toM (cit z u).2 t w' inp' ins' cmd' due')) ∧ Inv (cit z u).2 inp' ins' cmd' due' q' ∧ gPW_K_just (cit z u).2 = false ∧ q' ≤ q + z
  | 0 => ⟨w, inp, ins, cmd, due, q, fun _ => rfl, hI, hj, Nat.le_refl _⟩
  | z + 1 => by
    obtain ⟨w1, inp1, ins1, cmd1, due1, q1, e1, hI1, hj1, hq1⟩ := R_it t w hI hj z
    obtain ⟨inp2, ins2, cmd2, due2, q2, e2, hI2, hj2, hq2⟩ := R_turn (t := t) (w := w1) hI1
    refine ⟨(f_X4_turn (cit z u).2).1, inp2, ins2, cmd2, due2, q2, fun hq => ?_, hI2, hj2, by omega⟩
    show ((mit z (toM u t w inp ins cmd due)).1 + gMW_spent (f_X7_body (mit z (toM u t w inp ins cmd due)).2), f_X7_body (mit z (toM u t w inp ins cmd due)).2) = _
    rw [e1 (by omega)]
    show ((cit z u).1 + gMW_spent (f_X7_body (toM (cit z u).2 t w1 inp1 ins1 cmd1 due1)), f_X7_body (toM (cit z u).2 t w1 inp1 ins1 cmd1 due1)) = _
    rw [(e2 (by omega)).1]
    rfl
end ONME
