/-! the cycles that pass: bytes that move -/
def mvA (u : MW) : MW := sMW_mov (sMW_adr (f_X7_set u (gMW_adr u) ((gMW_d u) (((gMW_frm u) + (gMW_mov u)) : Int32).toNatClampNeg)) (((gMW_adr (f_X7_set u (gMW_adr u) ((gMW_d u) (((gMW_frm u) + (gMW_mov u)) : Int32).toNatClampNeg))) + (1 : Int32)) &&& (65535 : Int32))) ((gMW_mov (sMW_adr (f_X7_set u (gMW_adr u) ((gMW_d u) (((gMW_frm u) + (gMW_mov u)) : Int32).toNatClampNeg)) (((gMW_adr (f_X7_set u (gMW_adr u) ((gMW_d u) (((gMW_frm u) + (gMW_mov u)) : Int32).toNatClampNeg))) + (1 : Int32)) &&& (65535 : Int32)))) + (1 : Int32))
def mvB (u : MW) : MW := sMW_mov (sMW_adr (sMW_d u (upd (gMW_d u) (((gMW_frm u) + (gMW_mov u)) : Int32).toNatClampNeg (f_X7_get u (gMW_adr u)))) (((gMW_adr (sMW_d u (upd (gMW_d u) (((gMW_frm u) + (gMW_mov u)) : Int32).toNatClampNeg (f_X7_get u (gMW_adr u))))) + (1 : Int32)) &&& (65535 : Int32))) ((gMW_mov (sMW_adr (sMW_d u (upd (gMW_d u) (((gMW_frm u) + (gMW_mov u)) : Int32).toNatClampNeg (f_X7_get u (gMW_adr u)))) (((gMW_adr (sMW_d u (upd (gMW_d u) (((gMW_frm u) + (gMW_mov u)) : Int32).toNatClampNeg (f_X7_get u (gMW_adr u))))) + (1 : Int32)) &&& (65535 : Int32)))) + (1 : Int32))
def mvE (x : MW) : MW :=
  if gMW_mov x = (64 : Int32) then
    if ((gMW_call (sMW_st x (((gMW_st x) &&& (6 : Int32)) ||| (2 : Int32)))) &&& (8 : Int32)) = (0 : Int32) then sMW_st x (((gMW_st x) &&& (6 : Int32)) ||| (2 : Int32))
    else sMW_want (sMW_st x (((gMW_st x) &&& (6 : Int32)) ||| (2 : Int32))) ((gMW_call (sMW_st x (((gMW_st x) &&& (6 : Int32)) ||| (2 : Int32)))) &&& (7 : Int32))
  else x
theorem moveOne_eq (u : MW) : f_X7_moveOne u = if (gMW_cmd u) = (1 : Int32) then mvE (mvA u) else mvE (mvB u) := by
  unfold f_X7_moveOne mvE mvA mvB
  rfl
def mK0 (k : KW) (b : Int32) : KW := sKW_K_mov (sKW_K_adr (sKW_m k (f_X5_setByte (gKW_m k) (gKW_K_adr k) b)) (((gKW_K_adr k) + (1 : Int32)) &&& (65535 : Int32))) (gKW_K_mov k + (1 : Int32))
def mK1 (k : KW) (f : Nat → Int32) : KW := sKW_K_mov (sKW_K_adr (sKW_d k f) (((gKW_K_adr k) + (1 : Int32)) &&& (65535 : Int32))) (gKW_K_mov k + (1 : Int32))
theorem mb0 {k : KW} (h : gKW_K_toD k = false) : f_X2_moveByte k = mK0 k (f_X5_byteAt (gKW_d k) (gKW_K_start k + gKW_K_mov k)) := by
  unfold f_X2_moveByte
  rw [if_pos (by rw [h]; rfl)]
  rfl
theorem mb1 {k : KW} (h : gKW_K_toD k = true) : f_X2_moveByte k = mK1 k (f_X5_setByte (gKW_d k) (gKW_K_start k + gKW_K_mov k) (f_X5_byteAt (gKW_m k) (gKW_K_adr k))) := by
  unfold f_X2_moveByte
  rw [if_neg (by rw [h]; decide)]
  rfl
theorem byteAt_in {f : Nat → Int32} {p : Int32} (h : p &&& 4095 = p) : f_X5_byteAt f p = f p.toNatClampNeg := by
  unfold f_X5_byteAt
  rw [h]
theorem setByte_in {f : Nat → Int32} {p b : Int32} (h : p &&& 4095 = p) (hb : isB b) : f_X5_setByte f p b = upd f p.toNatClampNeg b := by
  unfold f_X5_setByte
  rw [h, show b &&& 255 = b from hb]
def Busy (v : PW) (cmd : Int32) : Prop := gPW_K_st v &&& 1 = 1 ∧ (∃ i j : Nat, i < 64 ∧ j < 64 ∧ gPW_K_start v = nI (64 * i) ∧ gPW_K_mov v = nI j) ∧ (cmd = 1 ∧ gPW_K_toD v = false ∨ cmd = 2 ∧ gPW_K_toD v = true)
def KOk (v x : PW) : Prop := InvB x ∧ gPW_C x = gPW_C v ∧ gPW_P_hlt x = gPW_P_hlt v ∧ gPW_P_jon x = gPW_P_jon v ∧ (gPW_P_want x = gPW_P_want v ∨ vp_in (gPW_P_want x) 8) ∧ gPW_K_just x = gPW_K_just v ∧ gPW_K_left x = gPW_K_left v
theorem KOk.refl {v : PW} (h : InvB v) : KOk v v := ⟨h, rfl, rfl, rfl, Or.inl rfl, rfl, rfl⟩
theorem KOk.trans {v x y : PW} (h : KOk v x) (k : KOk x y) : KOk v y := ⟨k.1, k.2.1.trans h.2.1, k.2.2.1.trans h.2.2.1, k.2.2.2.1.trans h.2.2.2.1, k.2.2.2.2.1.elim (fun e => h.2.2.2.2.1.elim (fun d => Or.inl (e.trans d)) (fun d => Or.inr (by rw [e]; exact d))) Or.inr, k.2.2.2.2.2.1.trans h.2.2.2.2.2.1, k.2.2.2.2.2.2.trans h.2.2.2.2.2.2⟩
abbrev mvP (v : PW) : PW := sPW_KW v (f_X2_moveByte (gPW_KW v))
section ONMC
variable {v : PW} {t w : Int32} {inp : Nat → Int32} {ins cmd due : Int32} {q : Nat}
theorem M_mvA {b : Int32} (h : gPW_d v (gPW_K_start v + gPW_K_mov v).toNatClampNeg = b) : mvA (toM v t w inp ins cmd due) = toM (sPW_KW v (mK0 (gPW_KW v) b)) t w inp ins cmd due := by
  subst h
  rfl
theorem M_mvB {f : Nat → Int32} (h : upd (gPW_d v) (gPW_K_start v + gPW_K_mov v).toNatClampNeg (f_X5_byteAt (gPW_m v) (gPW_K_adr v)) = f) : mvB (toM v t w inp ins cmd due) = toM (sPW_KW v (mK1 (gPW_KW v) f)) t w inp ins cmd due := by
  subst h
  rfl
theorem place_in (h : Busy v cmd) : (gPW_K_start v + gPW_K_mov v) &&& 4095 = gPW_K_start v + gPW_K_mov v := by
  obtain ⟨_, ⟨i, j, hi, hj, e1, e2⟩, _⟩ := h
  rw [e1, e2, nI_add, pk_andN (by omega) (m := 4095) 12 (by decide), Nat.mod_eq_of_lt (by omega)]
/-- one byte: the class's state -/
theorem mv_keeps (hB : InvB v) (h : Busy v cmd) : KOk v (mvP v) ∧ gPW_K_st (mvP v) = gPW_K_st v ∧ gPW_K_start (mvP v) = gPW_K_start v ∧ gPW_K_toD (mvP v) = gPW_K_toD v ∧ gPW_K_mov (mvP v) = gPW_K_mov v + 1 := by
  unfold mvP
  rcases h.2.2 with ⟨_, e⟩ | ⟨_, e⟩
  · rw [mb0 (show gKW_K_toD (gPW_KW v) = false from e)]
    exact ⟨⟨⟨sb_B hB.1 _ _, hB.2⟩, rfl, rfl, rfl, Or.inl rfl, rfl, rfl⟩, rfl, rfl, rfl, rfl⟩
  · rw [mb1 (show gKW_K_toD (gPW_KW v) = true from e)]
    exact ⟨⟨⟨hB.1, sb_B hB.2.1 _ _, hB.2.2⟩, rfl, rfl, rfl, Or.inl rfl, rfl, rfl⟩, rfl, rfl, rfl, rfl⟩
/-- one byte: the reference's -/
theorem M_move (hB : InvB v) (h : Busy v cmd) : f_X7_moveOne (toM v t w inp ins cmd due) = mvE (toM (mvP v) t w inp ins cmd due) := by
  rw [moveOne_eq]
  have p := place_in h
  unfold mvP
  rcases h.2.2 with ⟨c, e⟩ | ⟨c, e⟩
  · rw [if_pos (show gMW_cmd (toM v t w inp ins cmd due) = (1 : Int32) from c), mb0 (show gKW_K_toD (gPW_KW v) = false from e)]
    rw [M_mvA (show gPW_d v (gPW_K_start v + gPW_K_mov v).toNatClampNeg = f_X5_byteAt (gKW_d (gPW_KW v)) (gKW_K_start (gPW_KW v) + gKW_K_mov (gPW_KW v)) from (byteAt_in p).symm)]
  · rw [if_neg (show ¬ gMW_cmd (toM v t w inp ins cmd due) = (1 : Int32) from by rw [show gMW_cmd (toM v t w inp ins cmd due) = 2 from c]; decide), mb1 (show gKW_K_toD (gPW_KW v) = true from e)]
    rw [M_mvB (show upd (gPW_d v) (gPW_K_start v + gPW_K_mov v).toNatClampNeg (f_X5_byteAt (gPW_m v) (gPW_K_adr v)) = f_X5_setByte (gKW_d (gPW_KW v)) (gKW_K_start (gPW_KW v) + gKW_K_mov (gPW_KW v)) (f_X5_byteAt (gKW_m (gPW_KW v)) (gKW_K_adr (gPW_KW v))) from (setByte_in p (hB.1 _)).symm)]
def finK (v : PW) : PW := if (f_X2_finish (gPW_KW v)).1 = (-1) then sPW_KW v (f_X2_finish (gPW_KW v)).2 else sPW_P_want (sPW_KW v (f_X2_finish (gPW_KW v)).2) (f_X2_finish (gPW_KW v)).1
theorem fin_a (e : gPW_K_call v &&& 8 = 0) : (f_X2_finish (gPW_KW v)).1 = (-1) := if_pos e
theorem fin_b (e : ¬ gPW_K_call v &&& 8 = 0) : (f_X2_finish (gPW_KW v)).1 = gPW_K_call v &&& 7 := if_neg e
theorem not_m1 {x : Int32} (h : vp_in x 8) : ¬ x = (-1) := by
  rcases in_cases8 h with rfl | rfl | rfl | rfl | rfl | rfl | rfl | rfl <;> decide
theorem M_mvE0 (h : ¬ gPW_K_mov v = 64) : mvE (toM v t w inp ins cmd due) = toM v t w inp ins cmd due := by
  unfold mvE
  rw [if_neg (show ¬ gMW_mov (toM v t w inp ins cmd due) = (64 : Int32) from h)]
theorem M_mvE1 (hB : InvB v) (h : gPW_K_mov v = 64) : mvE (toM v t w inp ins cmd due) = toM (finK v) t w inp ins cmd due := by
  have b := (st_bits hB.2.2.2.2.2.2.2).2.2.2.2.2.2.1
  unfold mvE finK
  rw [if_pos (show gMW_mov (toM v t w inp ins cmd due) = (64 : Int32) from h), show gMW_st (toM v t w inp ins cmd due) = gPW_K_st v from rfl, b]
  by_cases e : gPW_K_call v &&& 8 = 0
  · rw [if_pos (show (gMW_call (sMW_st (toM v t w inp ins cmd due) ((gPW_K_st v &&& (-2)) ||| 2))) &&& 8 = 0 from e), if_pos (fin_a e)]
    rfl
  · rw [if_neg (show ¬ (gMW_call (sMW_st (toM v t w inp ins cmd due) ((gPW_K_st v &&& (-2)) ||| 2))) &&& 8 = 0 from e), if_neg (by rw [fin_b e]; exact not_m1 (ix_8 _)), fin_b e]
    rfl
theorem finK_keeps (hB : InvB v) : KOk v (finK v) ∧ gPW_K_st (finK v) &&& 1 = 0 := by
  have b := st_bits hB.2.2.2.2.2.2.2
  unfold finK
  by_cases e : gPW_K_call v &&& 8 = 0
  · rw [if_pos (fin_a e)]
    exact ⟨⟨⟨hB.1, hB.2.1, hB.2.2.1, hB.2.2.2.1, hB.2.2.2.2.1, hB.2.2.2.2.2.1, hB.2.2.2.2.2.2.1, b.2.2.2.2.2.2.2.1⟩, rfl, rfl, rfl, Or.inl rfl, rfl, rfl⟩, b.2.2.2.2.2.2.2.2.1⟩
  · rw [if_neg (by rw [fin_b e]; exact not_m1 (ix_8 _)), fin_b e]
    exact ⟨⟨⟨hB.1, hB.2.1, hB.2.2.1, hB.2.2.2.1, hB.2.2.2.2.1, hB.2.2.2.2.2.1, hB.2.2.2.2.2.2.1, b.2.2.2.2.2.2.2.1⟩, rfl, rfl, rfl, Or.inr (ix_8 _), rfl, rfl⟩, b.2.2.2.2.2.2.2.2.1⟩
end ONMC
