/-! the ports -/
def InvJ (u : PW) : Prop := gPW_K_just u = true → gPW_K_st u &&& 1 = 1
def Inv (u : PW) (inp : Nat → Int32) (ins cmd due : Int32) (q : Nat) : Prop := InvB u ∧ InvC u inp ins ∧ InvK u cmd due ∧ InvP u ∧ gPW_C_oc u = nI q ∧ InvJ u
def Res (t : Int32) (q : Nat) (m : MW) (c : Int32) (v : PW) : Prop := cst c ∧ ∃ (inp : Nat → Int32) (ins cmd due : Int32) (q' : Nat), (q < 2 ^ 30 → m = toM v t c inp ins cmd due) ∧ Inv v inp ins cmd due q' ∧ q' ≤ q + 1
theorem InvC_of {u v : PW} {inp : Nat → Int32} {ins : Int32} (e : gPW_C v = gPW_C u) (h : InvC u inp ins) : InvC v inp ins := by
  unfold InvC gPW_C_fst gPW_C_cnt gPW_C_inp at h ⊢
  rw [e]; exact h
theorem InvK_of {u v : PW} {cmd due : Int32} (e : gPW_K v = gPW_K u) (h : InvK u cmd due) : InvK v cmd due := by
  unfold InvK gPW_K_st gPW_K_start gPW_K_mov gPW_K_toD gPW_K_left at h ⊢
  rw [e]; exact h
theorem InvP_of {u v : PW} (e1 : gPW_P_want v = gPW_P_want u) (e2 : gPW_P_hlt v = gPW_P_hlt u) (e3 : gPW_P_jon v = gPW_P_jon u) (h : InvP u) : InvP v := by
  unfold InvP at h ⊢
  rw [e1, e2, e3]; exact h
theorem InvJ_of {u v : PW} (e : gPW_K v = gPW_K u) (h : InvJ u) : InvJ v := by
  unfold InvJ gPW_K_just gPW_K_st at h ⊢
  rw [e]; exact h
theorem inv_ok {u v : PW} {inp : Nat → Int32} {ins cmd due : Int32} {q : Nat} (h : Inv u inp ins cmd due q) (k : Ok u v) : Inv v inp ins cmd due q :=
  ⟨k.1, InvC_of k.2.1 h.2.1, InvK_of k.2.2.1 h.2.2.1, InvP_of k.2.2.2.1 k.2.2.2.2.1 k.2.2.2.2.2 h.2.2.2.1, (congrArg gCS_oc k.2.1).trans h.2.2.2.2.1, InvJ_of k.2.2.1 h.2.2.2.2.2⟩
theorem res_ok {u v : PW} {t : Int32} {inp : Nat → Int32} {ins cmd due c : Int32} {q : Nat} {m : MW} (h : Inv u inp ins cmd due q) (k : Ok u v) (hc : cst c) (e : m = toM v t c inp ins cmd due) : Res t q m c v := ⟨hc, inp, ins, cmd, due, q, fun _ => e, inv_ok h k, Nat.le_succ q⟩
theorem shf_at (f : Nat → Int32) : ∀ (n k : Nat), shf f n k = if k < n then f (k + 1) else f k
  | 0, k => by rw [if_neg (Nat.not_lt_zero k)]; rfl
  | n + 1, k => by
    show upd (shf f n) n (shf f n (n + 1)) k = _
    by_cases c : k = n
    · subst c
      rw [pk_us, shf_at f k (k + 1), if_neg (by omega), if_pos (by omega)]
    · rw [pk_un c, shf_at f n k]
      by_cases d : k < n
      · rw [if_pos d, if_pos (by omega)]
      · rw [if_neg d, if_neg (by omega)]
theorem st_bits {x : Int32} (h : vp_in x 8) : ((x ||| 4) &&& 1 = x &&& 1) ∧ ((x &&& 1) &&& 1 = x &&& 1) ∧ (x &&& 1 = 0 ∨ x &&& 1 = 1) ∧ vp_in (x ||| 4) 8 ∧ vp_in (x ||| 1) 8 ∧ vp_in (x &&& 1) 8 ∧ (x &&& 6) ||| 2 = (x &&& (-2)) ||| 2 ∧ vp_in ((x &&& (-2)) ||| 2) 8 ∧ (((x &&& (-2)) ||| 2) &&& 1 = 0) ∧ (x ||| 1) &&& 1 = 1 := by
  rcases in_cases8 h with rfl | rfl | rfl | rfl | rfl | rfl | rfl | rfl <;> exact ⟨by decide, by decide, by decide, ix_lit (by decide), ix_lit (by decide), ix_lit (by decide), by decide, ix_lit (by decide), by decide, by decide⟩
section ONM9
variable {v : PW} {t w : Int32} {inp : Nat → Int32} {ins cmd due : Int32} {q : Nat}
theorem M_o1 {b : Int32} (e : gPW_C_oc v - gPW_C_oc v / (256 : Int32) * (256 : Int32) = gPW_C_oc v &&& 255) : f_X7_out (toM v t w inp ins cmd due) 1 b = toM (sPW_C v (f_X1_append (gPW_C v) b)) t w inp ins cmd due := by
  unfold f_X7_out
  rw [if_pos rfl, show gMW_outs (toM v t w inp ins cmd due) = gPW_C_oc v from rfl, e]
  rfl
theorem M_o2 {b : Int32} : f_X7_out (toM v t w inp ins cmd due) 2 b = toM (sPW_KW v (f_X2_setSector (gPW_KW v) b)) t w inp ins cmd due := by
  unfold f_X7_out
  rw [if_neg (by decide), if_pos rfl]
  rfl
theorem M_o3 {b : Int32} : f_X7_out (toM v t w inp ins cmd due) 3 b = toM (sPW_KW v (f_X2_setLowAddress (gPW_KW v) b)) t w inp ins cmd due := by
  unfold f_X7_out
  rw [if_neg (by decide), if_neg (by decide), if_pos rfl]
  rfl
theorem M_o4 {b : Int32} : f_X7_out (toM v t w inp ins cmd due) 4 b = toM (sPW_KW v (f_X2_setHighAddress (gPW_KW v) b)) t w inp ins cmd due := by
  unfold f_X7_out
  rw [if_neg (by decide), if_neg (by decide), if_neg (by decide), if_pos rfl]
  rfl
theorem M_o5 {b : Int32} : f_X7_out (toM v t w inp ins cmd due) 5 b = toM (sPW_KW v (f_X2_setCall (gPW_KW v) b)) t w inp ins cmd due := by
  unfold f_X7_out
  rw [if_neg (by decide), if_neg (by decide), if_neg (by decide), if_neg (by decide), if_pos rfl]
  rfl
/-- a command that is refused -/
def kErr (v : PW) : PW := sPW_KW v (sKW_K_st (gPW_KW v) ((gKW_K_st (gPW_KW v)) ||| (4 : Int32)))
def kCmd (v : PW) (b : Int32) : PW := sPW_KW v (sKW_K_just (sKW_K_left (sKW_K_mov (sKW_K_toD (sKW_K_start (sKW_K_st (gPW_KW v) ((gKW_K_st (gPW_KW v)) ||| (1 : Int32))) ((gKW_K_sec (sKW_K_st (gPW_KW v) ((gKW_K_st (gPW_KW v)) ||| (1 : Int32)))) * (64 : Int32))) (if b = (2 : Int32) then true else false : Bool)) 0) 0) true)
theorem M_kErr : sMW_st (toM v t w inp ins cmd due) ((gMW_st (toM v t w inp ins cmd due)) ||| (4 : Int32)) = toM (kErr v) t w inp ins cmd due := rfl
theorem M_kCmd {b : Int32} : sMW_fresh (sMW_due (sMW_mov (sMW_frm (sMW_cmd (sMW_st (toM v t w inp ins cmd due) ((gMW_st (toM v t w inp ins cmd due)) ||| (1 : Int32))) b) ((64 : Int32) * (gMW_sec (sMW_cmd (sMW_st (toM v t w inp ins cmd due) ((gMW_st (toM v t w inp ins cmd due)) ||| (1 : Int32))) b)))) 0) 0) true = toM (kCmd v b) t w inp ins b 0 := by
  rw [Int32.mul_comm]
  rfl
theorem inv_kErr (h : Inv v inp ins cmd due q) : Inv (kErr v) inp ins cmd due q := by
  obtain ⟨hB, hC, hK, hP, hq, hJ⟩ := h
  have b := st_bits hB.2.2.2.2.2.2.2
  refine ⟨⟨hB.1, hB.2.1, hB.2.2.1, hB.2.2.2.1, hB.2.2.2.2.1, hB.2.2.2.2.2.1, hB.2.2.2.2.2.2.1, ?_⟩, hC, ?_, hP, hq, ?_⟩
  · exact b.2.2.2.1
  · intro k
    refine hK ?_
    have k' : (gPW_K_st v ||| 4) &&& 1 = 1 := k
    rw [b.1] at k'; exact k'
  · intro k
    show (gPW_K_st v ||| 4) &&& 1 = 1
    rw [b.1]; exact hJ k
theorem inv_kCmd {b : Int32} (h : Inv v inp ins cmd due q) (hb : b = 1 ∨ b = 2) (hs : gPW_K_sec v < (64 : Int32)) : Inv (kCmd v b) inp ins b 0 q := by
  obtain ⟨hB, hC, hK, hP, hq, hJ⟩ := h
  have bb := st_bits hB.2.2.2.2.2.2.2
  obtain ⟨n, hn, en⟩ := isB_of hB.2.2.2.2.2.2.1
  refine ⟨⟨hB.1, hB.2.1, hB.2.2.1, hB.2.2.2.1, hB.2.2.2.2.1, hB.2.2.2.2.2.1, hB.2.2.2.2.2.2.1, ?_⟩, hC, ?_, hP, hq, ?_⟩
  · exact bb.2.2.2.2.1
  · intro _
    refine ⟨⟨n, 0, ?_, by decide, ?_, rfl⟩, ?_, rfl, 0, by decide, rfl⟩
    · rw [en, show (64 : Int32) = nI 64 from rfl] at hs
      exact (nI_ltI (by omega) (by decide)).mp hs
    · show gPW_K_sec v * (64 : Int32) = _
      rw [en, show (64 : Int32) = nI 64 from rfl, pk_mul, Nat.mul_comm]
    · rcases hb with rfl | rfl
      · exact Or.inl ⟨rfl, show (if (1 : Int32) = (2 : Int32) then true else false : Bool) = false from by decide⟩
      · exact Or.inr ⟨rfl, show (if (2 : Int32) = (2 : Int32) then true else false : Bool) = true from by decide⟩
  · intro _
    exact bb.2.2.2.2.2.2.2.2.2
theorem busy0 (h : gPW_K_st v &&& 1 = 0) : bI (f_X2_isBusy (gPW_KW v)) = 0 := by
  unfold f_X2_isBusy
  rw [if_pos (show (gKW_K_st (gPW_KW v)) &&& (1 : Int32) = (0 : Int32) from h)]
  rfl
theorem busy1 (h : ¬ gPW_K_st v &&& 1 = 0) : ¬ bI (f_X2_isBusy (gPW_KW v)) = 0 := by
  unfold f_X2_isBusy
  rw [if_neg (show ¬ (gKW_K_st (gPW_KW v)) &&& (1 : Int32) = (0 : Int32) from h)]
  decide
theorem P_cmd {b : Int32} (h : Inv v inp ins cmd due q) : Res t q (f_X7_out (toM v t 10 inp ins cmd due) 6 b) 10 (sPW_KW v (f_X2_command (gPW_KW v) b)) := by
  have hsec : gPW_K_sec v < (64 : Int32) ↔ ¬ (64 : Int32) ≤ gPW_K_sec v := by
    obtain ⟨n, hn, en⟩ := isB_of h.1.2.2.2.2.2.2.1
    rw [en, show (64 : Int32) = nI 64 from rfl, nI_ltI (by omega) (by decide), nI_leI (by decide) (by omega)]
    omega
  have hM : f_X7_out (toM v t 10 inp ins cmd due) 6 b = if (gPW_K_st v &&& (1 : Int32)) = (0 : Int32) then (if b = (1 : Int32) then (if (64 : Int32) ≤ gPW_K_sec v then toM (kErr v) t 10 inp ins cmd due else toM (kCmd v b) t 10 inp ins b 0) else (if b = (2 : Int32) then (if (64 : Int32) ≤ gPW_K_sec v then toM (kErr v) t 10 inp ins cmd due else toM (kCmd v b) t 10 inp ins b 0) else toM (kErr v) t 10 inp ins cmd due)) else toM (kErr v) t 10 inp ins cmd due := by
    unfold f_X7_out
    rw [if_neg (by decide), if_neg (by decide), if_neg (by decide), if_neg (by decide), if_neg (by decide), if_pos rfl, M_kErr, M_kCmd]
    rfl
  rw [hM]
  unfold f_X2_command
  by_cases c : (gPW_K_st v &&& (1 : Int32)) = (0 : Int32)
  · rw [if_pos c, if_pos (busy0 c)]
    by_cases s : (64 : Int32) ≤ gPW_K_sec v
    · have e1 : (if b = (1 : Int32) then (if (64 : Int32) ≤ gPW_K_sec v then toM (kErr v) t 10 inp ins cmd due else toM (kCmd v b) t 10 inp ins b 0) else (if b = (2 : Int32) then (if (64 : Int32) ≤ gPW_K_sec v then toM (kErr v) t 10 inp ins cmd due else toM (kCmd v b) t 10 inp ins b 0) else toM (kErr v) t 10 inp ins cmd due)) = toM (kErr v) t 10 inp ins cmd due := by
        by_cases b1 : b = (1 : Int32)
        · rw [if_pos b1, if_pos s]
        · rw [if_neg b1]
          by_cases b2 : b = (2 : Int32)
          · rw [if_pos b2, if_pos s]
          · rw [if_neg b2]
      rw [e1]
      have e2 : ¬ gKW_K_sec (gPW_KW v) < (64 : Int32) := fun x => (hsec.mp x) s
      rw [if_neg e2]
      have e3 : ∀ (p : Prop) [Decidable p], (if p then (sKW_K_st (gPW_KW v) ((gKW_K_st (gPW_KW v)) ||| (4 : Int32))) else (sKW_K_st (gPW_KW v) ((gKW_K_st (gPW_KW v)) ||| (4 : Int32)))) = (sKW_K_st (gPW_KW v) ((gKW_K_st (gPW_KW v)) ||| (4 : Int32))) := fun p _ => by
        by_cases hp : p
        · rw [if_pos hp]
        · rw [if_neg hp]
      rw [e3]
      exact ⟨c_10, inp, ins, cmd, due, q, fun _ => rfl, inv_kErr h, Nat.le_succ q⟩
    · have e2 : gKW_K_sec (gPW_KW v) < (64 : Int32) := hsec.mpr s
      rw [if_pos e2]
      by_cases b1 : b = (1 : Int32)
      · rw [if_pos b1, if_neg s, if_pos b1, if_neg (by decide)]
        exact ⟨c_10, inp, ins, b, 0, q, fun _ => rfl, inv_kCmd h (Or.inl b1) e2, Nat.le_succ q⟩
      · rw [if_neg b1, if_neg b1]
        by_cases b2 : b = (2 : Int32)
        · rw [if_pos b2, if_neg s, if_neg (show ¬ bI (if b = (2 : Int32) then true else false : Bool) = 0 from by rw [if_pos b2]; decide)]
          exact ⟨c_10, inp, ins, b, 0, q, fun _ => rfl, inv_kCmd h (Or.inr b2) e2, Nat.le_succ q⟩
        · rw [if_neg b2, if_pos (show bI (if b = (2 : Int32) then true else false : Bool) = 0 from by rw [if_neg b2]; rfl)]
          exact ⟨c_10, inp, ins, cmd, due, q, fun _ => rfl, inv_kErr h, Nat.le_succ q⟩
  · rw [if_neg c, if_neg (busy1 c)]
    exact ⟨c_10, inp, ins, cmd, due, q, fun _ => rfl, inv_kErr h, Nat.le_succ q⟩
end ONM9
