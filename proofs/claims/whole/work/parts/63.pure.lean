/-! the cycles that pass, whole -/
theorem lpK_halt {k : KW} (h : ¬ gKW_K_mov k < 64) : ∀ n, lpK n k = k
  | 0 => rfl
  | _ + 1 => if_neg h
theorem lpK_go {k : KW} (h : gKW_K_mov k < 64) (n : Nat) : lpK (n + 1) k = lpK n (f_X2_moveByte k) := if_pos h
theorem passL_idle {m : MW} (h : ¬ gMW_st m &&& 1 = 1) : ∀ f, passL f m = m
  | 0 => rfl
  | _ + 1 => if_neg h
theorem passL_low {m : MW} (h : gMW_st m &&& 1 = 1) (h2 : gMW_due m < 12) (f : Nat) : passL (f + 1) m = m := (if_pos h).trans (if_pos h2)
theorem passL_go {m : MW} (h : gMW_st m &&& 1 = 1) (h2 : ¬ gMW_due m < 12) (f : Nat) : passL (f + 1) m = passL f (f_X7_moveOne (sMW_due m ((gMW_due m) - (12 : Int32)))) := (if_pos h).trans (if_neg h2)
def lpP (n : Nat) (v : PW) : PW := sPW_KW v (lpK n (gPW_KW v))
def eK (v : PW) : PW := if (64 : Int32) ≤ gPW_K_mov v then finK v else v
theorem gs_KW (v : PW) (k : KW) : gPW_KW (sPW_KW v k) = k := rfl
theorem ss_KW (v : PW) (k k' : KW) : sPW_KW (sPW_KW v k) k' = sPW_KW v k' := rfl
theorem sg_KW (v : PW) : sPW_KW v (gPW_KW v) = v := rfl
theorem sl_KW (v : PW) (r : Int32) (k : KW) : sPW_KW (sPW_K_left v r) k = sPW_KW v k := rfl
theorem lpP_0 (v : PW) : lpP 0 v = v := rfl
theorem lpP_s {v : PW} (h : gPW_K_mov v < 64) (n : Nat) : lpP (n + 1) v = lpP n (mvP v) := by
  unfold lpP mvP
  rw [lpK_go (show gKW_K_mov (gPW_KW v) < 64 from h), gs_KW, ss_KW]
theorem lpP_stop {v : PW} (h : ¬ gPW_K_mov v < 64) (n : Nat) : lpP n v = v := by
  unfold lpP
  rw [lpK_halt (show ¬ gKW_K_mov (gPW_KW v) < 64 from h), sg_KW]
section ONMD
variable {t w : Int32} {inp : Nat → Int32} {ins cmd due : Int32} {q : Nat}
theorem passL_spec {r : Nat} (hr : r < 12) : ∀ (n fuel : Nat) (v : PW), n + 1 ≤ fuel → 12 * n + r < 2 ^ 20 → InvB v → Busy v cmd → ∃ due', passL fuel (toM v t w inp ins cmd (nI (12 * n + r))) = toM (eK (lpP n v)) t w inp ins cmd due' ∧ KOk v (eK (lpP n v)) ∧ (gPW_K_st (eK (lpP n v)) &&& 1 = 1 → Busy (eK (lpP n v)) cmd ∧ due' = nI r)
  | 0, fuel, v, hf, hb, hB, h => by
    obtain ⟨f, rfl⟩ : ∃ f, fuel = f + 1 := ⟨fuel - 1, by omega⟩
    have h' := h
    obtain ⟨hs, ⟨i, j, hi, hj, e1, e2⟩, hc⟩ := h
    have e3 : eK v = v := by
      unfold eK
      rw [e2, show (64 : Int32) = nI 64 from rfl, if_neg (nI_ge hj (by decide))]
    rw [lpP_0, e3, Nat.mul_zero, Nat.zero_add]
    have hs' : gMW_st (toM v t w inp ins cmd (nI r)) &&& 1 = 1 := hs
    refine ⟨nI r, passL_low hs' ?_ f, KOk.refl hB, fun _ => ⟨h', rfl⟩⟩
    show nI r < 12
    rw [show (12 : Int32) = nI 12 from rfl]
    exact nI_lt hr (by decide)
  | n + 1, fuel, v, hf, hb, hB, h => by
    obtain ⟨f, rfl⟩ : ∃ f, fuel = f + 1 := ⟨fuel - 1, by omega⟩
    have h' := h
    obtain ⟨hs, ⟨i, j, hi, hj, e1, e2⟩, hc⟩ := h
    have hm : gPW_K_mov v < 64 := by
      rw [e2, show (64 : Int32) = nI 64 from rfl]
      exact nI_lt hj (by decide)
    have h12 : ¬ gMW_due (toM v t w inp ins cmd (nI (12 * (n + 1) + r))) < 12 := by
      show ¬ nI (12 * (n + 1) + r) < 12
      rw [show (12 : Int32) = nI 12 from rfl]
      exact nI_nlt (by omega) (by omega)
    have e4 : sMW_due (toM v t w inp ins cmd (nI (12 * (n + 1) + r))) ((gMW_due (toM v t w inp ins cmd (nI (12 * (n + 1) + r)))) - (12 : Int32)) = toM v t w inp ins cmd (nI (12 * n + r)) := by
      show toM v t w inp ins cmd (nI (12 * (n + 1) + r) - (12 : Int32)) = _
      rw [show (12 : Int32) = nI 12 from rfl, pk_sub (by omega), show 12 * (n + 1) + r - 12 = 12 * n + r from by omega]
    have hs' : gMW_st (toM v t w inp ins cmd (nI (12 * (n + 1) + r))) &&& 1 = 1 := hs
    rw [passL_go hs' h12, e4, M_move hB h', lpP_s hm]
    obtain ⟨k1, k2, k3, k4, k5⟩ := mv_keeps hB h'
    rw [e2, nI_1] at k5
    generalize hx : mvP v = x at *
    by_cases z : j + 1 = 64
    · have m64 : gPW_K_mov x = 64 := by rw [k5, z]; rfl
      have nm : ¬ gPW_K_mov x < 64 := by rw [m64]; decide
      have f1 := finK_keeps k1.1
      rw [M_mvE1 k1.1 m64, lpP_stop nm, show eK x = finK x from if_pos (by rw [m64]; decide)]
      refine ⟨nI (12 * n + r), passL_idle (fun b => ?_) f, k1.trans f1.1, fun b => ?_⟩
      · have b' : gPW_K_st (finK x) &&& 1 = 1 := b
        rw [f1.2] at b'
        exact absurd b' (by decide)
      · rw [f1.2] at b
        exact absurd b (by decide)
    · have m64 : ¬ gPW_K_mov x = 64 := by
        rw [k5, show (64 : Int32) = nI 64 from rfl, nI_eq (by omega) (by decide)]
        exact z
      rw [M_mvE0 m64]
      have hb' : Busy x cmd := ⟨by rw [k2]; exact hs, ⟨i, j + 1, hi, by omega, by rw [k3]; exact e1, k5⟩, by rw [k4]; exact hc⟩
      obtain ⟨d', p1, p2, p3⟩ := passL_spec hr n f x (by omega) (by omega) k1.1 hb'
      exact ⟨d', p1, k1.trans p2, p3⟩
def pas (m : MW) : MW :=
  if ((gMW_st m) &&& 1) = 1 then
    (if (bI (gMW_fresh m)) = 0 then (sMW_fresh (passL (((gMW_due m) + (gMW_spent m)).toNatClampNeg + 1) (sMW_due m ((gMW_due m) + (gMW_spent m)))) false) else (sMW_fresh m false))
  else (sMW_fresh m false)
theorem pass_eq (m : MW) : f_X7_pass m = pas (sMW_cyc m ((gMW_cyc m) + ((gMW_spent m) : Int32).toInt64)) := by
  unfold f_X7_pass pas
  rfl
def fin (v : PW) (c : Int32) : PW := if (f_X2_letPass (gPW_KW v) c).1 = (-1) then sPW_KW v (f_X2_letPass (gPW_KW v) c).2 else sPW_P_want (sPW_KW v (f_X2_letPass (gPW_KW v) c).2) (f_X2_letPass (gPW_KW v) c).1
theorem lp_idle {v : PW} {c : Int32} (h : gPW_K_st v &&& 1 = 0) : f_X2_letPass (gPW_KW v) c = ((-1), gPW_KW v) := if_pos (busy0 h)
theorem lp_just {v : PW} {c : Int32} (h : ¬ gPW_K_st v &&& 1 = 0) (h2 : gPW_K_just v = true) : f_X2_letPass (gPW_KW v) c = ((-1), sKW_K_just (gPW_KW v) false) := (if_neg (busy1 h)).trans (if_neg (by rw [show gKW_K_just (gPW_KW v) = true from h2]; decide))
theorem lp_go {v : PW} {c : Int32} {d k : Nat} (h : ¬ gPW_K_st v &&& 1 = 0) (h2 : gPW_K_just v = false) (e1 : gPW_K_left v = nI d) (e2 : c = nI k) (hd : d + k < 2 ^ 20) : f_X2_letPass (gPW_KW v) c = if (64 : Int32) ≤ gKW_K_mov (lpK ((d + k) / 12) (gPW_KW (sPW_K_left v (nI ((d + k) % 12))))) then ((f_X2_finish (lpK ((d + k) / 12) (gPW_KW (sPW_K_left v (nI ((d + k) % 12)))))).1, (f_X2_finish (lpK ((d + k) / 12) (gPW_KW (sPW_K_left v (nI ((d + k) % 12)))))).2) else ((-1), lpK ((d + k) / 12) (gPW_KW (sPW_K_left v (nI ((d + k) % 12))))) := by
  unfold f_X2_letPass
  have hq : (d + k) / 12 < 2 ^ 31 := Nat.lt_of_le_of_lt (Nat.div_le_self _ _) (by omega)
  rw [if_neg (busy1 h), if_pos (by rw [show gKW_K_just (gPW_KW v) = false from h2]; rfl), show gKW_K_left (gPW_KW v) = nI d from e1, e2, nI_add, show (12 : Int32) = nI 12 from rfl, pk_rem (by omega) (by decide) (by decide), pk_div (by omega) (by decide) (by decide), nI_clamp hq]
  rfl
theorem fin_go {v : PW} {c : Int32} {d k : Nat} (h : ¬ gPW_K_st v &&& 1 = 0) (h2 : gPW_K_just v = false) (e1 : gPW_K_left v = nI d) (e2 : c = nI k) (hd : d + k < 2 ^ 20) : fin v c = eK (lpP ((d + k) / 12) (sPW_K_left v (nI ((d + k) % 12)))) := by
  unfold fin
  rw [lp_go h h2 e1 e2 hd]
  unfold lpP eK
  rw [show gPW_K_mov (sPW_KW (sPW_K_left v (nI ((d + k) % 12))) (lpK ((d + k) / 12) (gPW_KW (sPW_K_left v (nI ((d + k) % 12)))))) = gKW_K_mov (lpK ((d + k) / 12) (gPW_KW (sPW_K_left v (nI ((d + k) % 12))))) from rfl]
  generalize lpK ((d + k) / 12) (gPW_KW (sPW_K_left v (nI ((d + k) % 12)))) = x
  by_cases z : (64 : Int32) ≤ gKW_K_mov x
  · rw [if_pos z, if_pos z]
    unfold finK
    rw [gs_KW, ss_KW, sl_KW]
  · rw [if_neg z, if_neg z, if_pos rfl, sl_KW]
theorem R_pas {v : PW} {c : Int32} (hI : Inv v inp ins cmd due q) (hc : cst c) : ∃ due', pas (toM v t c inp ins cmd due) = toM (fin v c) t c inp ins cmd due' ∧ Inv (fin v c) inp ins cmd due' q ∧ gPW_K_just (fin v c) = false := by
  have hI' := hI
  obtain ⟨hB, hC, hK, hP, ho, hJ⟩ := hI
  have sb := st_bits hB.2.2.2.2.2.2.2
  rcases sb.2.2.1 with s0 | s1
  · have hj : gPW_K_just v = false := by
      cases e : gPW_K_just v
      · rfl
      · have := hJ e
        rw [s0] at this
        exact absurd this (by decide)
    have ef : fin v c = v := by
      unfold fin
      rw [lp_idle s0, if_pos rfl, sg_KW]
    rw [ef]
    refine ⟨due, ?_, hI', hj⟩
    unfold pas
    rw [if_neg (show ¬ gMW_st (toM v t c inp ins cmd due) &&& 1 = 1 from by rw [show gMW_st (toM v t c inp ins cmd due) = gPW_K_st v from rfl, s0]; decide), ← hj]
    rfl
  · have s0 : ¬ gPW_K_st v &&& 1 = 0 := by rw [s1]; decide
    cases hj : gPW_K_just v
    · obtain ⟨⟨i, j, hi, hj', e1, e2⟩, hcm, el, d, hd, ed⟩ := hK s1
      obtain ⟨k, hk, ek⟩ := hc
      rw [fin_go s0 hj (el.trans ed) ek (by omega)]
      have hb : Busy (sPW_K_left v (nI ((d + k) % 12))) cmd := ⟨s1, ⟨i, j, hi, hj', e1, e2⟩, hcm⟩
      have hB2 : InvB (sPW_K_left v (nI ((d + k) % 12))) := hB
      obtain ⟨due', p1, p2, p3⟩ := passL_spec (t := t) (w := c) (inp := inp) (ins := ins) (cmd := cmd) (r := (d + k) % 12) (Nat.mod_lt _ (by decide)) ((d + k) / 12) (d + k + 1) (sPW_K_left v (nI ((d + k) % 12))) (by omega) (by omega) hB2 hb
      rw [Nat.div_add_mod] at p1
      have hj2 : gPW_K_just (eK (lpP ((d + k) / 12) (sPW_K_left v (nI ((d + k) % 12))))) = false := p2.2.2.2.2.2.1.trans hj
      have pp : pas (toM v t c inp ins cmd due) = sMW_fresh (passL (d + k + 1) (toM (sPW_K_left v (nI ((d + k) % 12))) t c inp ins cmd (nI (d + k)))) false := by
        unfold pas
        rw [if_pos (show gMW_st (toM v t c inp ins cmd due) &&& 1 = 1 from s1), if_pos (show bI (gMW_fresh (toM v t c inp ins cmd due)) = 0 from by rw [show gMW_fresh (toM v t c inp ins cmd due) = false from hj]; rfl), show gMW_due (toM v t c inp ins cmd due) + gMW_spent (toM v t c inp ins cmd due) = nI (d + k) from by rw [show gMW_due (toM v t c inp ins cmd due) = nI d from ed, show gMW_spent (toM v t c inp ins cmd due) = nI k from ek, nI_add], nI_clamp (by omega)]
        rfl
      rw [pp, p1]
      generalize eK (lpP ((d + k) / 12) (sPW_K_left v (nI ((d + k) % 12)))) = x at *
      refine ⟨due', ?_, ⟨p2.1, InvC_of p2.2.1 hC, ?_, ⟨?_, ?_⟩, (congrArg gCS_oc p2.2.1).trans ho, ?_⟩, hj2⟩
      · rw [← hj2]
        rfl
      · intro b
        obtain ⟨b1, b2⟩ := p3 b
        exact ⟨b1.2.1, b1.2.2, p2.2.2.2.2.2.2.trans b2.symm, (d + k) % 12, Nat.mod_lt _ (by decide), b2⟩
      · rw [p2.2.2.1, p2.2.2.2.1]
        exact hP.1
      · rcases p2.2.2.2.2.1 with a | a
        · rw [a]
          exact hP.2
        · exact Or.inr a
      · intro b
        rw [hj2] at b
        exact absurd b (by decide)
    · have ef : fin v c = sPW_KW v (sKW_K_just (gPW_KW v) false) := by
        unfold fin
        rw [lp_just s0 hj, if_pos rfl]
      rw [ef]
      refine ⟨due, ?_, ⟨hB, hC, hK, hP, ho, ?_⟩, rfl⟩
      · unfold pas
        rw [if_pos (show gMW_st (toM v t c inp ins cmd due) &&& 1 = 1 from s1), if_neg (show ¬ bI (gMW_fresh (toM v t c inp ins cmd due)) = 0 from by rw [show gMW_fresh (toM v t c inp ins cmd due) = true from hj]; decide)]
        rfl
      · intro b
        have b' : false = true := b
        exact absurd b' (by decide)
theorem R_pass {v : PW} {c : Int32} (hI : Inv v inp ins cmd due q) (hc : cst c) : ∃ due', f_X7_pass (toM v t c inp ins cmd due) = toM (fin (sPW_P_cyc v ((gPW_P_cyc v) + (c : Int32).toInt64)) c) t c inp ins cmd due' ∧ Inv (fin (sPW_P_cyc v ((gPW_P_cyc v) + (c : Int32).toInt64)) c) inp ins cmd due' q ∧ gPW_K_just (fin (sPW_P_cyc v ((gPW_P_cyc v) + (c : Int32).toInt64)) c) = false := by
  have o : Ok v (sPW_P_cyc v ((gPW_P_cyc v) + (c : Int32).toInt64)) := ⟨hI.1, rfl, rfl, rfl, rfl, rfl⟩
  rw [pass_eq, show sMW_cyc (toM v t c inp ins cmd due) ((gMW_cyc (toM v t c inp ins cmd due)) + ((gMW_spent (toM v t c inp ins cmd due)) : Int32).toInt64) = toM (sPW_P_cyc v ((gPW_P_cyc v) + (c : Int32).toInt64)) t c inp ins cmd due from rfl]
  exact R_pas (inv_ok hI o) hc
end ONMD
