/-! the twenty statements that the law's walk asks -/
theorem rel_inv {n : Nat} {u : PW} {v : MW} (h : Rel n u v) : ∃ (t w : Int32) (inp : Nat → Int32) (ins cmd due : Int32) (q : Nat), v = toM u t w inp ins cmd due ∧ Inv u inp ins cmd due q ∧ gPW_K_just u = false ∧ q ≤ 3000 * n := by
  obtain ⟨t, w, inp, ins, cmd, due, e, hB, hC, hK, hP, hj, q, hq, ho⟩ := h
  exact ⟨t, w, inp, ins, cmd, due, q, e, ⟨hB, hC, hK, hP, ho, fun b => by rw [hj] at b; exact absurd b (by decide)⟩, hj, hq⟩
theorem inv_rel {n q : Nat} {u : PW} {t w : Int32} {inp : Nat → Int32} {ins cmd due : Int32} (hI : Inv u inp ins cmd due q) (hj : gPW_K_just u = false) (hq : q ≤ 3000 * n) : Rel n u (toM u t w inp ins cmd due) :=
  ⟨t, w, inp, ins, cmd, due, rfl, hI.1, hI.2.1, hI.2.2.1, hI.2.2.2.1, hj, q, hq, hI.2.2.2.2.1⟩
section OUT
variable {n q : Nat} {u : PW} {g : Nat → Int64} {FL : Int32 × PW × (Nat → Int64)} {Y : Int32 × MW} {w y : Int32} {inp : Nat → Int32} {ins cmd due : Int32}
theorem out_bad (hI : Inv u inp ins cmd due q) (hj : gPW_K_just u = false) (hq : q ≤ 3000 * n) (eL : FL = (1, u, g)) (eM : Y = (y, toM u 1 w inp ins cmd due)) : f_X7_thrown Y.2 = FL.1 ∧ (FL.1 = 0 → FL.2.2 (0 : Int32).toNatClampNeg = (Y.1).toInt64) ∧ Rel (n + 1) FL.2.1 Y.2 := by
  rw [eL, eM]
  exact ⟨rfl, fun x => absurd (show (1 : Int32) = 0 from x) (by decide), inv_rel hI hj (by omega)⟩
theorem out_good (hI : Inv u inp ins cmd due q) (hj : gPW_K_just u = false) (hq : q ≤ 3000 * (n + 1)) (eL : FL = (0, u, vp_updL g (0 : Int32).toNatClampNeg y.toInt64)) (eM : Y = (y, toM u 0 w inp ins cmd due)) : f_X7_thrown Y.2 = FL.1 ∧ (FL.1 = 0 → FL.2.2 (0 : Int32).toNatClampNeg = (Y.1).toInt64) ∧ Rel (n + 1) FL.2.1 Y.2 := by
  rw [eL, eM]
  exact ⟨rfl, fun _ => (pk_uLs (f := g) (k := (0 : Int32).toNatClampNeg) (x := y.toInt64)), inv_rel hI hj hq⟩
variable {FL2 : Int32 × PW} {Y2 : MW}
theorem vut_bad (hI : Inv u inp ins cmd due q) (hj : gPW_K_just u = false) (hq : q ≤ 3000 * n) (eL : FL2 = (1, u)) (eM : Y2 = toM u 1 w inp ins cmd due) : f_X7_thrown Y2 = FL2.1 ∧ Rel (n + 1) FL2.2 Y2 := by
  rw [eL, eM]
  exact ⟨rfl, inv_rel hI hj (by omega)⟩
theorem vut_good (hI : Inv u inp ins cmd due q) (hj : gPW_K_just u = false) (hq : q ≤ 3000 * n) (eL : FL2 = (0, u)) (eM : Y2 = toM u 0 w inp ins cmd due) : f_X7_thrown Y2 = FL2.1 ∧ Rel (n + 1) FL2.2 Y2 := by
  rw [eL, eM]
  exact ⟨rfl, inv_rel hI hj (by omega)⟩
end OUT
theorem place_cases (a : Int32) : (f_X7_noPlace a = true ∧ f_X6_isPlace a = false) ∨ (f_X7_noPlace a = false ∧ f_X6_isPlace a = true ∧ a &&& 4095 = a) := by
  unfold f_X7_noPlace f_X6_isPlace
  by_cases n : a < 0
  · left; rw [if_pos n, if_pos n]; exact ⟨rfl, rfl⟩
  · obtain ⟨j, hj, rfl⟩ := nI_of n
    rw [if_neg n, if_neg n, show (4096 : Int32) = nI 4096 from rfl]
    by_cases c : j < 4096
    · right
      rw [if_pos (nI_lt c (by decide)), if_neg (nI_ge c (by decide))]
      refine ⟨rfl, rfl, ?_⟩
      rw [pk_andN (by omega) (m := 4095) 12 (by decide), Nat.mod_eq_of_lt (by omega)]
    · left
      rw [if_neg (nI_nlt (by omega) hj), if_pos (nI_le (by omega) hj)]
      exact ⟨rfl, rfl⟩
theorem byte_cases (a : Int32) : (f_X7_noByte a = true ∧ f_X6_isByte a = false) ∨ (f_X7_noByte a = false ∧ f_X6_isByte a = true ∧ isB a) := by
  unfold f_X7_noByte f_X6_isByte
  by_cases n : a < 0
  · left; rw [if_pos n, if_pos n]; exact ⟨rfl, rfl⟩
  · obtain ⟨j, hj, rfl⟩ := nI_of n
    rw [if_neg n, if_neg n, show (255 : Int32) = nI 255 from rfl]
    by_cases c : j < 256
    · right
      rw [if_pos (nI_le (by omega) (by decide)), if_neg (nI_nlt (by omega) (by decide))]
      exact ⟨rfl, rfl, isB_nI j c⟩
    · left
      rw [if_neg (nI_ge (by omega) hj), if_pos (nI_lt (by omega) hj)]
      exact ⟨rfl, rfl⟩
/-- a range from 0 to M -/
theorem rng (a : Int32) (M : Nat) (hM : M < 2 ^ 31) : (a < 0) ∨ (¬ a < 0 ∧ nI M < a ∧ ¬ a ≤ nI M) ∨ (¬ a < 0 ∧ a ≤ nI M ∧ ¬ nI M < a ∧ ∃ j : Nat, j ≤ M ∧ a = nI j) := by
  by_cases n : a < 0
  · exact Or.inl n
  · right
    obtain ⟨j, hj, rfl⟩ := nI_of n
    by_cases c : j ≤ M
    · exact Or.inr ⟨n, nI_le c hM, nI_nlt c hM, j, c, rfl⟩
    · exact Or.inl ⟨n, nI_lt (by omega) hj, nI_ge (by omega) hj⟩
theorem R_up0 {n : Nat} {u : PW} {v : MW} (h : Rel n u v) : Rel (n + 1) u v := by
  obtain ⟨t, w, inp, ins, cmd, due, q, rfl, hI, hj, hq⟩ := rel_inv h
  exact inv_rel hI hj (by omega)
theorem R_write {n : Nat} {u : PW} {v : MW} {g : Nat → Int64} {a1 : Int32} {a2 : Int32} (hn : n < 512) (h : Rel n u v) : f_X7_thrown (f_X7_write v a1 a2).2 = (f_L_write u g a1 a2).1 ∧ ((f_L_write u g a1 a2).1 = 0 → (f_L_write u g a1 a2).2.2 (0 : Int32).toNatClampNeg = ((f_X7_write v a1 a2).1).toInt64) ∧ Rel (n + 1) (f_L_write u g a1 a2).2.1 (f_X7_write v a1 a2).2 := by
  obtain ⟨t, w, inp, ins, cmd, due, q, rfl, hI, hj, hq⟩ := rel_inv h
  have bad : (if (bI (f_X7_noPlace a1)) = (0 : Int32) then (if (bI (f_X7_noByte a2)) = (0 : Int32) then false else true : Bool) else true : Bool) = true → f_X7_write (toM u t w inp ins cmd due) a1 a2 = (0, toM u 1 w inp ins cmd due) := fun T => by
    unfold f_X7_write
    rw [T, M_thr, if_neg (show ¬ gMW_thr (toM u (bI true) w inp ins cmd due) ≤ (0 : Int32) from show ¬ bI true ≤ (0 : Int32) from by decide)]
    rfl
  rcases place_cases a1 with ⟨p1, p2⟩ | ⟨p1, p2, p3⟩
  · refine out_bad hI hj hq (g := g) ?_ (bad (by rw [p1, if_neg (by decide)]))
    unfold f_L_write f_X6_write
    rw [if_pos (show bI (f_X6_isPlace a1) = 0 from by rw [p2]; rfl)]
  rcases byte_cases a2 with ⟨b1, b2⟩ | ⟨b1, b2, b3⟩
  · refine out_bad hI hj hq (g := g) ?_ (bad (by rw [p1, if_pos (by decide), b1, if_neg (by decide)]))
    unfold f_L_write f_X6_write
    rw [if_neg (show ¬ bI (f_X6_isPlace a1) = 0 from by rw [p2]; decide), if_pos (show bI (f_X6_isByte a2) = 0 from by rw [b2]; rfl)]
  have T : (if (bI (f_X7_noPlace a1)) = (0 : Int32) then (if (bI (f_X7_noByte a2)) = (0 : Int32) then false else true : Bool) else true : Bool) = false := by rw [p1, if_pos (by decide), b1, if_pos (by decide)]
  refine out_good (g := g) (u := sPW_m u (f_X5_setByte (gPW_m u) a1 a2)) (y := f_X5_byteAt (gPW_m u) a1) (w := w) (inp := inp) (ins := ins) (cmd := cmd) (due := due) (q := q) ⟨⟨sb_B hI.1.1 _ _, hI.1.2⟩, hI.2⟩ hj (by omega) ?_ ?_
  · unfold f_L_write f_X6_write
    rw [if_neg (show ¬ bI (f_X6_isPlace a1) = 0 from by rw [p2]; decide), if_neg (show ¬ bI (f_X6_isByte a2) = 0 from by rw [b2]; decide)]
    rfl
  · unfold f_X7_write
    rw [T, M_thr, if_pos (show gMW_thr (toM u (bI false) w inp ins cmd due) ≤ (0 : Int32) from show bI false ≤ (0 : Int32) from by decide), byteAt_in p3, setByte_in p3 b3]
    rfl
theorem R_read {n : Nat} {u : PW} {v : MW} {g : Nat → Int64} {a1 : Int32} (hn : n < 512) (h : Rel n u v) : f_X7_thrown (f_X7_read v a1).2 = (f_L_read u g a1).1 ∧ ((f_L_read u g a1).1 = 0 → (f_L_read u g a1).2.2 (0 : Int32).toNatClampNeg = ((f_X7_read v a1).1).toInt64) ∧ Rel (n + 1) (f_L_read u g a1).2.1 (f_X7_read v a1).2 := by
  obtain ⟨t, w, inp, ins, cmd, due, q, rfl, hI, hj, hq⟩ := rel_inv h
  rcases place_cases a1 with ⟨p1, p2⟩ | ⟨p1, p2, p3⟩
  · have T : (if (bI (f_X7_noPlace a1)) = (0 : Int32) then false else true : Bool) = true := by rw [p1, if_neg (by decide)]
    refine out_bad hI hj hq (g := g) (w := w) (y := 0) ?_ ?_
    · unfold f_L_read f_X6_read
      rw [if_pos (show bI (f_X6_isPlace a1) = 0 from by rw [p2]; rfl)]
    · unfold f_X7_read
      rw [T, M_thr, if_neg (show ¬ gMW_thr (toM u (bI true) w inp ins cmd due) ≤ (0 : Int32) from show ¬ bI true ≤ (0 : Int32) from by decide)]
      rfl
  have T : (if (bI (f_X7_noPlace a1)) = (0 : Int32) then false else true : Bool) = false := by rw [p1, if_pos (by decide)]
  refine out_good (g := g) (y := f_X5_byteAt (gPW_m u) a1) (w := w) hI hj (by omega) ?_ ?_
  · unfold f_L_read f_X6_read
    rw [if_neg (show ¬ bI (f_X6_isPlace a1) = 0 from by rw [p2]; decide)]
  · unfold f_X7_read
    rw [T, M_thr, if_pos (show gMW_thr (toM u (bI false) w inp ins cmd due) ≤ (0 : Int32) from show bI false ≤ (0 : Int32) from by decide), byteAt_in p3]
    rfl
theorem R_writeDisk {n : Nat} {u : PW} {v : MW} {g : Nat → Int64} {a1 : Int32} {a2 : Int32} (hn : n < 512) (h : Rel n u v) : f_X7_thrown (f_X7_writeDisk v a1 a2).2 = (f_L_writeDisk u g a1 a2).1 ∧ ((f_L_writeDisk u g a1 a2).1 = 0 → (f_L_writeDisk u g a1 a2).2.2 (0 : Int32).toNatClampNeg = ((f_X7_writeDisk v a1 a2).1).toInt64) ∧ Rel (n + 1) (f_L_writeDisk u g a1 a2).2.1 (f_X7_writeDisk v a1 a2).2 := by
  obtain ⟨t, w, inp, ins, cmd, due, q, rfl, hI, hj, hq⟩ := rel_inv h
  have bad : (if (bI (f_X7_noPlace a1)) = (0 : Int32) then (if (bI (f_X7_noByte a2)) = (0 : Int32) then false else true : Bool) else true : Bool) = true → f_X7_writeDisk (toM u t w inp ins cmd due) a1 a2 = (0, toM u 1 w inp ins cmd due) := fun T => by
    unfold f_X7_writeDisk
    rw [T, M_thr, if_neg (show ¬ gMW_thr (toM u (bI true) w inp ins cmd due) ≤ (0 : Int32) from show ¬ bI true ≤ (0 : Int32) from by decide)]
    rfl
  rcases place_cases a1 with ⟨p1, p2⟩ | ⟨p1, p2, p3⟩
  · refine out_bad hI hj hq (g := g) ?_ (bad (by rw [p1, if_neg (by decide)]))
    unfold f_L_writeDisk f_X6_writeDisk
    rw [if_pos (show bI (f_X6_isPlace a1) = 0 from by rw [p2]; rfl)]
  rcases byte_cases a2 with ⟨b1, b2⟩ | ⟨b1, b2, b3⟩
  · refine out_bad hI hj hq (g := g) ?_ (bad (by rw [p1, if_pos (by decide), b1, if_neg (by decide)]))
    unfold f_L_writeDisk f_X6_writeDisk
    rw [if_neg (show ¬ bI (f_X6_isPlace a1) = 0 from by rw [p2]; decide), if_pos (show bI (f_X6_isByte a2) = 0 from by rw [b2]; rfl)]
  have T : (if (bI (f_X7_noPlace a1)) = (0 : Int32) then (if (bI (f_X7_noByte a2)) = (0 : Int32) then false else true : Bool) else true : Bool) = false := by rw [p1, if_pos (by decide), b1, if_pos (by decide)]
  refine out_good (g := g) (u := sPW_d u (f_X5_setByte (gPW_d u) a1 a2)) (y := f_X5_byteAt (gPW_d u) a1) (w := w) (inp := inp) (ins := ins) (cmd := cmd) (due := due) (q := q) ⟨⟨hI.1.1, sb_B hI.1.2.1 _ _, hI.1.2.2⟩, hI.2⟩ hj (by omega) ?_ ?_
  · unfold f_L_writeDisk f_X6_writeDisk
    rw [if_neg (show ¬ bI (f_X6_isPlace a1) = 0 from by rw [p2]; decide), if_neg (show ¬ bI (f_X6_isByte a2) = 0 from by rw [b2]; decide)]
    rfl
  · unfold f_X7_writeDisk
    rw [T, M_thr, if_pos (show gMW_thr (toM u (bI false) w inp ins cmd due) ≤ (0 : Int32) from show bI false ≤ (0 : Int32) from by decide), byteAt_in p3, setByte_in p3 b3]
    rfl
theorem R_readDisk {n : Nat} {u : PW} {v : MW} {g : Nat → Int64} {a1 : Int32} (hn : n < 512) (h : Rel n u v) : f_X7_thrown (f_X7_readDisk v a1).2 = (f_L_readDisk u g a1).1 ∧ ((f_L_readDisk u g a1).1 = 0 → (f_L_readDisk u g a1).2.2 (0 : Int32).toNatClampNeg = ((f_X7_readDisk v a1).1).toInt64) ∧ Rel (n + 1) (f_L_readDisk u g a1).2.1 (f_X7_readDisk v a1).2 := by
  obtain ⟨t, w, inp, ins, cmd, due, q, rfl, hI, hj, hq⟩ := rel_inv h
  rcases place_cases a1 with ⟨p1, p2⟩ | ⟨p1, p2, p3⟩
  · have T : (if (bI (f_X7_noPlace a1)) = (0 : Int32) then false else true : Bool) = true := by rw [p1, if_neg (by decide)]
    refine out_bad hI hj hq (g := g) (w := w) (y := 0) ?_ ?_
    · unfold f_L_readDisk f_X6_readDisk
      rw [if_pos (show bI (f_X6_isPlace a1) = 0 from by rw [p2]; rfl)]
    · unfold f_X7_readDisk
      rw [T, M_thr, if_neg (show ¬ gMW_thr (toM u (bI true) w inp ins cmd due) ≤ (0 : Int32) from show ¬ bI true ≤ (0 : Int32) from by decide)]
      rfl
  have T : (if (bI (f_X7_noPlace a1)) = (0 : Int32) then false else true : Bool) = false := by rw [p1, if_pos (by decide)]
  refine out_good (g := g) (y := f_X5_byteAt (gPW_d u) a1) (w := w) hI hj (by omega) ?_ ?_
  · unfold f_L_readDisk f_X6_readDisk
    rw [if_neg (show ¬ bI (f_X6_isPlace a1) = 0 from by rw [p2]; decide)]
  · unfold f_X7_readDisk
    rw [T, M_thr, if_pos (show gMW_thr (toM u (bI false) w inp ins cmd due) ≤ (0 : Int32) from show bI false ≤ (0 : Int32) from by decide), byteAt_in p3]
    rfl
theorem R_register {n : Nat} {u : PW} {v : MW} {g : Nat → Int64} {a1 : Int32} (hn : n < 512) (h : Rel n u v) : f_X7_thrown (f_X7_register v a1).2 = (f_L_register u g a1).1 ∧ ((f_L_register u g a1).1 = 0 → (f_L_register u g a1).2.2 (0 : Int32).toNatClampNeg = ((f_X7_register v a1).1).toInt64) ∧ Rel (n + 1) (f_L_register u g a1).2.1 (f_X7_register v a1).2 := by
  obtain ⟨t, w, inp, ins, cmd, due, q, rfl, hI, hj, hq⟩ := rel_inv h
  have bad : (if a1 < (0 : Int32) then true else (if a1 ≤ (9 : Int32) then false else true : Bool) : Bool) = true → f_X7_register (toM u t w inp ins cmd due) a1 = (0, toM u 1 w inp ins cmd due) := fun T => by
    unfold f_X7_register
    rw [T, M_thr, if_neg (show ¬ gMW_thr (toM u (bI true) w inp ins cmd due) ≤ (0 : Int32) from show ¬ bI true ≤ (0 : Int32) from by decide)]
    rfl
  rcases rng a1 9 (by decide) with r | ⟨r, r1, r2⟩ | ⟨r, r1, r2, j, hj9, ej⟩
  · refine out_bad hI hj hq (g := g) ?_ (bad (by rw [if_pos r]))
    unfold f_L_register f_X6_register f_X4_shows
    rw [if_pos r, if_pos (by decide)]
  · refine out_bad hI hj hq (g := g) ?_ (bad (by rw [if_neg r, if_neg (show ¬ a1 ≤ (9 : Int32) from r2)]))
    unfold f_L_register f_X6_register f_X4_shows
    rw [if_neg r, if_pos (show (9 : Int32) < a1 from r1), if_pos (by decide)]
  have T : (if a1 < (0 : Int32) then true else (if a1 ≤ (9 : Int32) then false else true : Bool) : Bool) = false := by rw [if_neg r, if_pos (show a1 ≤ (9 : Int32) from r1)]
  refine out_good (g := g) (y := f_X4_shown u a1) (w := w) hI hj (by omega) ?_ ?_
  · unfold f_L_register f_X6_register f_X4_shows
    rw [if_neg r, if_neg (show ¬ (9 : Int32) < a1 from r2), if_neg (by decide)]
  · unfold f_X7_register
    rw [T, M_thr, if_pos (show gMW_thr (toM u (bI false) w inp ins cmd due) ≤ (0 : Int32) from show bI false ≤ (0 : Int32) from by decide)]
    refine Prod.ext ?_ rfl
    show (if a1 = (6 : Int32) then f_X3_packed (gPW_F u) else (if a1 = (8 : Int32) then gPW_P_pc u else (if a1 = (9 : Int32) then gPW_P_sp u else gPW_P_r u a1.toNatClampNeg : Int32) : Int32) : Int32) = f_X4_shown u a1
    unfold f_X4_shown
    by_cases c6 : a1 = (6 : Int32)
    · rw [if_pos c6, if_pos c6]
    rw [if_neg c6, if_neg c6]
    by_cases c8 : a1 = (8 : Int32)
    · rw [if_pos c8, if_neg (by rw [c8]; decide), if_pos c8]
    rw [if_neg c8, if_neg c8]
    by_cases c9 : a1 = (9 : Int32)
    · rw [if_pos c9, if_neg (by rw [c9]; decide), if_pos c9]
    rw [if_neg c9, if_neg c9]
    have e7 : a1 &&& (7 : Int32) = a1 := by
      have n8 : j ≠ 8 := fun z => c8 (by rw [ej, z]; rfl)
      have n9 : j ≠ 9 := fun z => c9 (by rw [ej, z]; rfl)
      rw [ej, pk_andN (by omega) (m := 7) 3 (by decide), Nat.mod_eq_of_lt (by omega)]
    rw [e7]
    by_cases c7 : a1 = (7 : Int32)
    · rw [if_pos c7]
    · rw [if_neg c7]
theorem R_type {n : Nat} {u : PW} {v : MW} {g : Nat → Int64} {a1 : Int32} (hn : n < 512) (h : Rel n u v) : f_X7_thrown (f_X7_type v a1).2 = (f_L_type u g a1).1 ∧ ((f_L_type u g a1).1 = 0 → (f_L_type u g a1).2.2 (0 : Int32).toNatClampNeg = ((f_X7_type v a1).1).toInt64) ∧ Rel (n + 1) (f_L_type u g a1).2.1 (f_X7_type v a1).2 := by
  obtain ⟨t, w, inp, ins, cmd, due, q, rfl, hI, hj, hq⟩ := rel_inv h
  rcases byte_cases a1 with ⟨b1, b2⟩ | ⟨b1, b2, b3⟩
  · have T : (if (bI (f_X7_noByte a1)) = (0 : Int32) then false else true : Bool) = true := by rw [b1, if_neg (by decide)]
    refine out_bad hI hj hq (g := g) (w := w) (y := 0) ?_ ?_
    · unfold f_L_type f_X6_type
      rw [if_pos (show bI (f_X6_isByte a1) = 0 from by rw [b2]; rfl)]
    · unfold f_X7_type
      rw [T, M_thr, if_neg (show ¬ gMW_thr (toM u (bI true) w inp ins cmd due) ≤ (0 : Int32) from show ¬ bI true ≤ (0 : Int32) from by decide)]
      rfl
  have T : (if (bI (f_X7_noByte a1)) = (0 : Int32) then false else true : Bool) = false := by rw [b1, if_pos (by decide)]
  have eL : f_L_type u g a1 = (0, sPW_C u (f_X1_takeKey (gPW_C u) a1).2, vp_updL g (0 : Int32).toNatClampNeg ((f_X1_takeKey (gPW_C u) a1).1).toInt64) := by
    unfold f_L_type f_X6_type
    rw [if_neg (show ¬ bI (f_X6_isByte a1) = 0 from by rw [b2]; decide)]
  obtain ⟨i, j, hi, hj9, e1, e2, e3, e4⟩ := hI.2.1
  have hnj : j < 2 ^ 31 := by omega
  by_cases c : j < 64
  · have l : gCS_cnt (gPW_C u) < (64 : Int32) := by
      rw [show gCS_cnt (gPW_C u) = nI j from e2, show (64 : Int32) = nI 64 from rfl]
      exact nI_lt c (by decide)
    have ix : ((gCS_fst (gPW_C u)) + (gCS_cnt (gPW_C u))) - ((gCS_fst (gPW_C u)) + (gCS_cnt (gPW_C u))) / (64 : Int32) * (64 : Int32) = nI ((i + j) % 64) := by
      rw [show gCS_cnt (gPW_C u) = nI j from e2, show gCS_fst (gPW_C u) = nI i from e1, nI_add, show (64 : Int32) = nI 64 from rfl, pk_rem (by omega) (by decide) (by decide)]
    have mlt : (i + j) % 64 < 64 := Nat.mod_lt _ (by decide)
    have eT : f_X1_takeKey (gPW_C u) a1 = (gCS_cnt (gPW_C u) + 1, sCS_cnt (sCS_inp (gPW_C u) (upd (gCS_inp (gPW_C u)) ((i + j) % 64) a1)) (gCS_cnt (gPW_C u) + 1)) := by
      unfold f_X1_takeKey
      rw [if_pos l, ix, nI_clamp (show (i + j) % 64 < 2 ^ 31 by omega)]
      rfl
    rw [eT] at eL
    refine out_good (g := g) (u := sPW_C u (sCS_cnt (sCS_inp (gPW_C u) (upd (gCS_inp (gPW_C u)) ((i + j) % 64) a1)) (gCS_cnt (gPW_C u) + 1))) (y := gCS_cnt (gPW_C u) + 1) (w := w) (inp := upd inp j a1) (ins := nI (j + 1)) (cmd := cmd) (due := due) (q := q) ⟨⟨hI.1.1, hI.1.2.1, hI.1.2.2.1, upd_B hI.1.2.2.2.1 _ b3, hI.1.2.2.2.2⟩, ⟨i, j + 1, hi, by omega, e1, ?_, rfl, ?_⟩, hI.2.2⟩ hj (by omega) eL ?_
    · show gCS_cnt (gPW_C u) + 1 = _
      rw [show gCS_cnt (gPW_C u) = nI j from e2, nI_1]
    · intro k hk
      show upd inp j a1 k = upd (gCS_inp (gPW_C u)) ((i + j) % 64) a1 ((i + k) % 64)
      by_cases kj : k = j
      · rw [kj, pk_us, pk_us]
      · rw [pk_un kj, pk_un (by omega)]
        exact e4 k (by omega)
    · unfold f_X7_type
      have n64 : ¬ gMW_ins (toM u (bI false) w inp ins cmd due) = (64 : Int32) := by
        rw [show gMW_ins (toM u (bI false) w inp ins cmd due) = nI j from e3, show (64 : Int32) = nI 64 from rfl, nI_eq hnj (by decide)]
        omega
      rw [T, M_thr, if_pos (show gMW_thr (toM u (bI false) w inp ins cmd due) ≤ (0 : Int32) from show bI false ≤ (0 : Int32) from by decide), if_neg n64, show gCS_cnt (gPW_C u) = nI j from e2, show gMW_ins (toM u (bI false) w inp ins cmd due) = nI j from e3, nI_clamp hnj]
      have ei : ins = nI j := e3
      subst ei
      rw [← nI_1]
      rfl
  · have l : ¬ gCS_cnt (gPW_C u) < (64 : Int32) := by
      rw [show gCS_cnt (gPW_C u) = nI j from e2, show (64 : Int32) = nI 64 from rfl]
      exact nI_nlt (by omega) hnj
    have eT : f_X1_takeKey (gPW_C u) a1 = ((-1), gPW_C u) := if_neg l
    rw [eT] at eL
    refine out_good (g := g) (y := (-1)) (w := w) hI hj (by omega) eL ?_
    unfold f_X7_type
    have n64 : gMW_ins (toM u (bI false) w inp ins cmd due) = (64 : Int32) := by
      rw [show gMW_ins (toM u (bI false) w inp ins cmd due) = nI j from e3, show (64 : Int32) = nI 64 from rfl, nI_eq hnj (by decide)]
      omega
    rw [T, M_thr, if_pos (show gMW_thr (toM u (bI false) w inp ins cmd due) ≤ (0 : Int32) from show bI false ≤ (0 : Int32) from by decide), if_pos n64]
    rfl
theorem R_text {n : Nat} {u : PW} {v : MW} {g : Nat → Int64} {a1 : Int32} (hn : n < 512) (h : Rel n u v) : f_X7_thrown (f_X7_text v a1).2 = (f_L_text u g a1).1 ∧ ((f_L_text u g a1).1 = 0 → (f_L_text u g a1).2.2 (0 : Int32).toNatClampNeg = ((f_X7_text v a1).1).toInt64) ∧ Rel (n + 1) (f_L_text u g a1).2.1 (f_X7_text v a1).2 := by
  obtain ⟨t, w, inp, ins, cmd, due, q, rfl, hI, hj, hq⟩ := rel_inv h
  have TT : ((if a1 < (0 : Int32) then true else (if (gPW_C_oc u) ≤ a1 then true else (if ((gPW_C_oc u) - (256 : Int32)) ≤ a1 then false else true : Bool) : Bool) : Bool) = true ∧ f_X1_keeps (gPW_C u) a1 = false) ∨ ((if a1 < (0 : Int32) then true else (if (gPW_C_oc u) ≤ a1 then true else (if ((gPW_C_oc u) - (256 : Int32)) ≤ a1 then false else true : Bool) : Bool) : Bool) = false ∧ f_X1_keeps (gPW_C u) a1 = true ∧ ¬ a1 < 0) := by
    unfold f_X1_keeps
    rw [show gCS_oc (gPW_C u) = gPW_C_oc u from rfl]
    by_cases r : a1 < (0 : Int32)
    · left; rw [if_pos r, if_pos r]; exact ⟨rfl, rfl⟩
    rw [if_neg r, if_neg r]
    by_cases s : gPW_C_oc u ≤ a1
    · left; rw [if_pos s, if_pos s]; exact ⟨rfl, rfl⟩
    rw [if_neg s, if_neg s]
    by_cases x : gPW_C_oc u - (256 : Int32) ≤ a1
    · right; rw [if_pos x, if_neg (Int32.not_lt.mpr x)]; exact ⟨rfl, rfl, r⟩
    · left; rw [if_neg x, if_pos (Int32.not_le.mp x)]; exact ⟨rfl, rfl⟩
  rcases TT with ⟨T, p⟩ | ⟨T, p, r⟩
  · refine out_bad hI hj hq (g := g) (w := w) (y := 0) ?_ ?_
    · unfold f_L_text f_X6_text
      rw [if_pos (show bI (f_X1_keeps (gPW_C u) a1) = 0 from by rw [p]; rfl)]
    · unfold f_X7_text
      rw [show gMW_outs (toM u t w inp ins cmd due) = gPW_C_oc u from rfl, T, M_thr, if_neg (show ¬ gMW_thr (toM u (bI true) w inp ins cmd due) ≤ (0 : Int32) from show ¬ bI true ≤ (0 : Int32) from by decide)]
      rfl
  obtain ⟨j, hj9, ej⟩ := nI_of r
  refine out_good (g := g) (y := f_X1_writtenByte (gPW_C u) a1) (w := w) hI hj (by omega) ?_ ?_
  · unfold f_L_text f_X6_text
    rw [if_neg (show ¬ bI (f_X1_keeps (gPW_C u) a1) = 0 from by rw [p]; decide)]
  · unfold f_X7_text f_X1_writtenByte
    have e8 : a1 - a1 / (256 : Int32) * (256 : Int32) = a1 &&& 255 := by
      rw [ej, show (256 : Int32) = nI 256 from rfl, pk_rem hj9 (by decide) (by decide), pk_andN (by omega) (m := 255) 8 (by decide)]
    rw [show gMW_outs (toM u t w inp ins cmd due) = gPW_C_oc u from rfl, T, M_thr, if_pos (show gMW_thr (toM u (bI false) w inp ins cmd due) ≤ (0 : Int32) from show bI false ≤ (0 : Int32) from by decide), e8]
    rfl
theorem R_step {n : Nat} {u : PW} {v : MW} {g : Nat → Int64} {a1 : Int32} (hn : n < 512) (h : Rel n u v) : f_X7_thrown (f_X7_step v a1).2 = (f_L_step u g a1).1 ∧ ((f_L_step u g a1).1 = 0 → (f_L_step u g a1).2.2 (0 : Int32).toNatClampNeg = ((f_X7_step v a1).1).toInt64) ∧ Rel (n + 1) (f_L_step u g a1).2.1 (f_X7_step v a1).2 := by
  obtain ⟨t, w, inp, ins, cmd, due, q, rfl, hI, hj, hq⟩ := rel_inv h
  have bad : (if a1 < (0 : Int32) then true else (if a1 ≤ (3000 : Int32) then false else true : Bool) : Bool) = true → f_X7_step (toM u t w inp ins cmd due) a1 = (0, toM u 1 w inp ins cmd due) := fun T => by
    unfold f_X7_step
    rw [T, if_neg (by decide), M_thr]
    rfl
  rcases rng a1 3000 (by decide) with r | ⟨r, r1, r2⟩ | ⟨r, r1, r2, j, hj9, ej⟩
  · refine out_bad hI hj hq (g := g) ?_ (bad (by rw [if_pos r]))
    unfold f_L_step f_X6_step
    rw [if_pos r]
  · refine out_bad hI hj hq (g := g) ?_ (bad (by rw [if_neg r, if_neg (show ¬ a1 ≤ (3000 : Int32) from r2)]))
    unfold f_L_step f_X6_step
    rw [if_neg r, if_neg (show ¬ a1 ≤ (3000 : Int32) from r2)]
  have T : (if a1 < (0 : Int32) then true else (if a1 ≤ (3000 : Int32) then false else true : Bool) : Bool) = false := by rw [if_neg r, if_pos (show a1 ≤ (3000 : Int32) from r1)]
  have ec : a1.toNatClampNeg = j := by rw [ej, nI_clamp (by omega)]
  obtain ⟨w', inp', ins', cmd', due', q', e1, hI1, hj1, hq1⟩ := R_it (0 : Int32) w hI hj j
  refine out_good (g := g) (u := (cit j u).2) (y := (cit j u).1) (w := w') hI1 hj1 (by omega) ?_ ?_
  · unfold f_L_step f_X6_step
    rw [if_neg r, if_pos (show a1 ≤ (3000 : Int32) from r1), ec]
  · unfold f_X7_step
    rw [T, if_pos (by decide), M_thr, ec]
    exact e1 (by omega)
theorem R_told {n : Nat} {u : PW} {v : MW} {g : Nat → Int64} {a1 : Int32} (hn : n < 512) (h : Rel n u v) : f_X7_thrown (f_X7_told v a1).2 = (f_L_told u g a1).1 ∧ ((f_L_told u g a1).1 = 0 → (f_L_told u g a1).2.2 (0 : Int32).toNatClampNeg = ((f_X7_told v a1).1).toInt64) ∧ Rel (n + 1) (f_L_told u g a1).2.1 (f_X7_told v a1).2 := by
  obtain ⟨t, w, inp, ins, cmd, due, q, rfl, hI, hj, hq⟩ := rel_inv h
  have bad : (if a1 < (0 : Int32) then true else (if a1 ≤ (5 : Int32) then false else true : Bool) : Bool) = true → f_X7_told (toM u t w inp ins cmd due) a1 = (0, toM u 1 w inp ins cmd due) := fun T => by
    unfold f_X7_told
    rw [T, M_thr, if_neg (show ¬ gMW_thr (toM u (bI true) w inp ins cmd due) ≤ (0 : Int32) from show ¬ bI true ≤ (0 : Int32) from by decide)]
    rfl
  rcases rng a1 5 (by decide) with r | ⟨r, r1, r2⟩ | ⟨r, r1, r2, j, hj9, ej⟩
  · refine out_bad hI hj hq (g := g) ?_ (bad (by rw [if_pos r]))
    unfold f_L_told f_X6_told
    rw [if_neg (fun z => by rw [z] at r; exact absurd r (by decide)), if_neg (fun z => by rw [z] at r; exact absurd r (by decide)), if_neg (fun z => by rw [z] at r; exact absurd r (by decide)), if_neg (fun z => by rw [z] at r; exact absurd r (by decide)), if_neg (fun z => by rw [z] at r; exact absurd r (by decide)), if_neg (fun z => by rw [z] at r; exact absurd r (by decide))]
  · refine out_bad hI hj hq (g := g) ?_ (bad (by rw [if_neg r, if_neg (show ¬ a1 ≤ (5 : Int32) from r2)]))
    unfold f_L_told f_X6_told
    rw [if_neg (fun z => by rw [z] at r1; exact absurd r1 (by decide)), if_neg (fun z => by rw [z] at r1; exact absurd r1 (by decide)), if_neg (fun z => by rw [z] at r1; exact absurd r1 (by decide)), if_neg (fun z => by rw [z] at r1; exact absurd r1 (by decide)), if_neg (fun z => by rw [z] at r1; exact absurd r1 (by decide)), if_neg (fun z => by rw [z] at r1; exact absurd r1 (by decide))]
  have T : (if a1 < (0 : Int32) then true else (if a1 ≤ (5 : Int32) then false else true : Bool) : Bool) = false := by rw [if_neg r, if_pos (show a1 ≤ (5 : Int32) from r1)]
  have eM : f_X7_told (toM u t w inp ins cmd due) a1 = ((if a1 = (0 : Int32) then (bI (if (bI (gPW_P_hlt u)) = (0 : Int32) then false else true : Bool)) else (if a1 = (1 : Int32) then (bI (if (bI (gPW_P_on u)) = (0 : Int32) then false else true : Bool)) else (if a1 = (2 : Int32) then gPW_P_want u else (if a1 = (3 : Int32) then gPW_K_st u else (if a1 = (4 : Int32) then gPW_K_mov u else gPW_K_adr u : Int32) : Int32) : Int32) : Int32) : Int32), toM u 0 w inp ins cmd due) := by
    unfold f_X7_told
    rw [T, M_thr, if_pos (show gMW_thr (toM u (bI false) w inp ins cmd due) ≤ (0 : Int32) from show bI false ≤ (0 : Int32) from by decide)]
    rfl
  have K : ∀ y : Int32, f_X6_told u a1 = some y → f_X7_told (toM u t w inp ins cmd due) a1 = (y, toM u 0 w inp ins cmd due) → f_X7_thrown (f_X7_told (toM u t w inp ins cmd due) a1).2 = (f_L_told u g a1).1 ∧ ((f_L_told u g a1).1 = 0 → (f_L_told u g a1).2.2 (0 : Int32).toNatClampNeg = ((f_X7_told (toM u t w inp ins cmd due) a1).1).toInt64) ∧ Rel (n + 1) (f_L_told u g a1).2.1 (f_X7_told (toM u t w inp ins cmd due) a1).2 := fun y e1 e2 =>
    out_good (g := g) hI hj (by omega) (by unfold f_L_told; rw [e1]) e2
  unfold f_X6_told at K
  by_cases c0 : a1 = 0
  · rw [if_pos c0] at eM
    exact K _ (if_pos c0) eM
  rw [if_neg c0] at eM K
  by_cases c1 : a1 = 1
  · rw [if_pos c1] at eM
    exact K _ (if_pos c1) eM
  rw [if_neg c1] at eM K
  by_cases c2 : a1 = 2
  · rw [if_pos c2] at eM
    exact K _ (if_pos c2) eM
  rw [if_neg c2] at eM K
  by_cases c3 : a1 = 3
  · rw [if_pos c3] at eM
    exact K _ (if_pos c3) eM
  rw [if_neg c3] at eM K
  by_cases c4 : a1 = 4
  · rw [if_pos c4] at eM
    exact K _ (if_pos c4) eM
  rw [if_neg c4] at eM K
  have c5 : a1 = 5 := by
    have : j = 5 := by
      rcases (show j = 0 ∨ j = 1 ∨ j = 2 ∨ j = 3 ∨ j = 4 ∨ j = 5 by omega) with z | z | z | z | z | z
      · exact absurd (by rw [ej, z]; rfl) c0
      · exact absurd (by rw [ej, z]; rfl) c1
      · exact absurd (by rw [ej, z]; rfl) c2
      · exact absurd (by rw [ej, z]; rfl) c3
      · exact absurd (by rw [ej, z]; rfl) c4
      · exact z
    rw [ej, this]; rfl
  exact K _ (if_pos c5) eM
theorem R_put {n : Nat} {u : PW} {v : MW} {a1 : Int32} {a2 : Int32} (hn : n < 512) (h : Rel n u v) : f_X7_thrown (f_X7_put v a1 a2) = (f_L_put u a1 a2).1 ∧ Rel (n + 1) (f_L_put u a1 a2).2 (f_X7_put v a1 a2) := by
  obtain ⟨t, w, inp, ins, cmd, due, q, rfl, hI, hj, hq⟩ := rel_inv h
  have bad : (if a1 < (0 : Int32) then true else (if a1 ≤ (9 : Int32) then false else true : Bool) : Bool) = true → f_X7_put (toM u t w inp ins cmd due) a1 a2 = toM u 1 w inp ins cmd due := fun T => by
    unfold f_X7_put
    rw [T, M_thr, if_neg (show ¬ gMW_thr (toM u (bI true) w inp ins cmd due) ≤ (0 : Int32) from show ¬ bI true ≤ (0 : Int32) from by decide)]
    rfl
  rcases rng a1 9 (by decide) with r | ⟨r, r1, r2⟩ | ⟨r, r1, r2, j, hj9, ej⟩
  · refine vut_bad hI hj hq ?_ (bad (by rw [if_pos r]))
    unfold f_L_put f_X6_put f_X4_shows
    rw [if_pos r, if_pos (by decide)]
  · refine vut_bad hI hj hq ?_ (bad (by rw [if_neg r, if_neg (show ¬ a1 ≤ (9 : Int32) from r2)]))
    unfold f_L_put f_X6_put f_X4_shows
    rw [if_neg r, if_pos (show (9 : Int32) < a1 from r1), if_pos (by decide)]
  have T : (if a1 < (0 : Int32) then true else (if a1 ≤ (9 : Int32) then false else true : Bool) : Bool) = false := by rw [if_neg r, if_pos (show a1 ≤ (9 : Int32) from r1)]
  have eL : f_L_put u a1 a2 = (0, f_X4_change u a1 a2) := by
    unfold f_L_put f_X6_put f_X4_shows
    rw [if_neg r, if_neg (show ¬ (9 : Int32) < a1 from r2), if_neg (by decide)]
  have eM : f_X7_put (toM u t w inp ins cmd due) a1 a2 = (if a1 = (6 : Int32) then toM (sPW_F u (f_X3_unpack (gPW_F u) a2)) 0 w inp ins cmd due else (if a1 = (8 : Int32) then toM (sPW_P_pc u (a2 &&& 65535)) 0 w inp ins cmd due else (if a1 = (9 : Int32) then toM (sPW_P_sp u (a2 &&& 65535)) 0 w inp ins cmd due else toM (sPW_P_r u (upd (gPW_P_r u) a1.toNatClampNeg (a2 &&& 255))) 0 w inp ins cmd due))) := by
    unfold f_X7_put
    rw [T, M_thr, if_pos (show gMW_thr (toM u (bI false) w inp ins cmd due) ≤ (0 : Int32) from show bI false ≤ (0 : Int32) from by decide), M_setFlags]
    rfl
  have K : ∀ x : PW, Ok u x → f_X4_change u a1 a2 = x → f_X7_put (toM u t w inp ins cmd due) a1 a2 = toM x 0 w inp ins cmd due → f_X7_thrown (f_X7_put (toM u t w inp ins cmd due) a1 a2) = (f_L_put u a1 a2).1 ∧ Rel (n + 1) (f_L_put u a1 a2).2 (f_X7_put (toM u t w inp ins cmd due) a1 a2) := fun x o e1 e2 =>
    vut_good (inv_ok hI o) ((congrArg gKS_just o.2.2.1).trans hj) hq (eL.trans (by rw [e1])) e2
  by_cases c6 : a1 = (6 : Int32)
  · rw [if_pos c6] at eM
    exact K _ (ok_F hI.1) (if_pos c6) eM
  rw [if_neg c6] at eM
  by_cases c8 : a1 = (8 : Int32)
  · rw [if_pos c8] at eM
    refine K _ (ok_pc hI.1 (isW_and _)) ?_ eM
    unfold f_X4_change
    rw [if_neg c6, if_neg (by rw [c8]; decide), if_pos c8]
  rw [if_neg c8] at eM
  by_cases c9 : a1 = (9 : Int32)
  · rw [if_pos c9] at eM
    refine K _ (ok_sp hI.1 (isW_and _)) ?_ eM
    unfold f_X4_change
    rw [if_neg c6, if_neg (by rw [c9]; decide), if_neg c8, if_pos c9]
  rw [if_neg c9] at eM
  have e7 : a1 &&& (7 : Int32) = a1 := by
    have n8 : j ≠ 8 := fun z => c8 (by rw [ej, z]; rfl)
    have n9 : j ≠ 9 := fun z => c9 (by rw [ej, z]; rfl)
    rw [ej, pk_andN (by omega) (m := 7) 3 (by decide), Nat.mod_eq_of_lt (by omega)]
  refine K _ (ok_r hI.1 _ (isB_and _)) ?_ eM
  unfold f_X4_change
  rw [e7, if_neg c6, if_neg c8, if_neg c9]
  by_cases c7 : a1 = (7 : Int32)
  · rw [if_pos c7]
  · rw [if_neg c7]
theorem R_want {n : Nat} {u : PW} {v : MW} {a1 : Int32} (hn : n < 512) (h : Rel n u v) : f_X7_thrown (f_X7_want v a1) = (f_L_want u a1).1 ∧ Rel (n + 1) (f_L_want u a1).2 (f_X7_want v a1) := by
  obtain ⟨t, w, inp, ins, cmd, due, q, rfl, hI, hj, hq⟩ := rel_inv h
  have bad : (if a1 < (0 : Int32) then true else (if a1 ≤ (7 : Int32) then false else true : Bool) : Bool) = true → f_X7_want (toM u t w inp ins cmd due) a1 = toM u 1 w inp ins cmd due := fun T => by
    unfold f_X7_want
    rw [T, M_thr, if_neg (show ¬ gMW_thr (toM u (bI true) w inp ins cmd due) = (0 : Int32) from show ¬ bI true = (0 : Int32) from by decide)]
    rfl
  rcases rng a1 7 (by decide) with r | ⟨r, r1, r2⟩ | ⟨r, r1, r2, j, hj9, ej⟩
  · refine vut_bad hI hj hq ?_ (bad (by rw [if_pos r]))
    unfold f_L_want f_X6_want
    rw [if_pos r]
  · refine vut_bad hI hj hq ?_ (bad (by rw [if_neg r, if_neg (show ¬ a1 ≤ (7 : Int32) from r2)]))
    unfold f_L_want f_X6_want
    rw [if_neg r, if_neg (show ¬ a1 ≤ (7 : Int32) from r2)]
  have T : (if a1 < (0 : Int32) then true else (if a1 ≤ (7 : Int32) then false else true : Bool) : Bool) = false := by rw [if_neg r, if_pos (show a1 ≤ (7 : Int32) from r1)]
  refine vut_good (u := f_X4_callWith u a1) (w := w) (inp := inp) (ins := ins) (cmd := cmd) (due := due) (q := q) ⟨hI.1, hI.2.1, hI.2.2.1, ⟨hI.2.2.2.1.1, Or.inr ?_⟩, hI.2.2.2.2⟩ hj hq ?_ ?_
  · show vp_in a1 8
    rw [ej]
    exact vp_in_nI (by omega) (by decide)
  · unfold f_L_want f_X6_want
    rw [if_neg r, if_pos (show a1 ≤ (7 : Int32) from r1)]
  · unfold f_X7_want
    rw [T, M_thr, if_pos (show gMW_thr (toM u (bI false) w inp ins cmd due) = (0 : Int32) from rfl)]
    rfl
theorem R_init : Rel 0 pw0 mw0 := by
  have hB : InvB pw0 := ⟨fun _ => by show isB (0 : Int32); unfold isB; decide, fun _ => by show isB (0 : Int32); unfold isB; decide, fun _ => by show isB (0 : Int32); unfold isB; decide, fun _ => by show isB (0 : Int32); unfold isB; decide, by show isW (0 : Int32); unfold isW; decide, by show isW (0 : Int32); unfold isW; decide, by show isB (0 : Int32); unfold isB; decide, by show vp_in (0 : Int32) 8; exact ix_lit (by decide)⟩
  refine ⟨0, 0, fun _ => 0, 0, 0, 0, rfl, hB, ⟨0, 0, by decide, by decide, rfl, rfl, rfl, fun k hk => absurd hk (Nat.not_lt_zero k)⟩, ?_, ⟨fun b => absurd (show false = true from b) (by decide), Or.inl rfl⟩, rfl, 0, by decide, rfl⟩
  intro b
  exact absurd (show (0 : Int32) &&& 1 = 1 from b) (by decide)
theorem R_written {n : Nat} {u : PW} {v : MW} (hn : n < 512) (h : Rel n u v) : f_X6_written u = (f_X7_written v).1 ∧ Rel (n + 1) u (f_X7_written v).2 := by
  obtain ⟨t, w, inp, ins, cmd, due, q, rfl, hI, hj, hq⟩ := rel_inv h
  exact ⟨rfl, inv_rel hI hj (by omega)⟩
theorem R_cycles {n : Nat} {u : PW} {v : MW} (hn : n < 512) (h : Rel n u v) : f_X6_cycles u = (f_X7_cycles v).1 ∧ Rel (n + 1) u (f_X7_cycles v).2 := by
  obtain ⟨t, w, inp, ins, cmd, due, q, rfl, hI, hj, hq⟩ := rel_inv h
  exact ⟨rfl, inv_rel hI hj (by omega)⟩
theorem R_sum {n : Nat} {u : PW} {v : MW} (hn : n < 512) (h : Rel n u v) : f_X6_sum u = (f_X7_sum v).1 ∧ Rel (n + 1) u (f_X7_sum v).2 := by
  obtain ⟨t, w, inp, ins, cmd, due, q, rfl, hI, hj, hq⟩ := rel_inv h
  exact ⟨congrArg (fun f => wsum f 4096) rfl, inv_rel hI hj (by omega)⟩
theorem R_hC {n : Nat} {u : PW} {v : MW} (h : Rel n u v) : ∃ i j : Nat, i < 64 ∧ j ≤ 64 ∧ gCS_fst (gPW_C u) = nI i ∧ gCS_cnt (gPW_C u) = nI j := by
  obtain ⟨t, w, inp, ins, cmd, due, q, rfl, hI, hj, hq⟩ := rel_inv h
  obtain ⟨i, j, hi, hj, e1, e2, _, _⟩ := hI.2.1
  exact ⟨i, j, hi, hj, e1, e2⟩
theorem R_hI {n : Nat} {u : PW} {v : MW} (h : Rel n u v) : ∃ q : Nat, q ≤ 64 ∧ gMW_ins v = nI q := by
  obtain ⟨t, w, inp, ins, cmd, due, q, rfl, hI, hj, hq⟩ := rel_inv h
  obtain ⟨i, j, hi, hj, e1, e2, e3, _⟩ := hI.2.1
  exact ⟨j, hj, e3⟩
theorem R_hG {n : Nat} {u : PW} {v : MW} {a1 : Int32} (hn : n < 512) (h : Rel n u v) : ∀ z, z < (a1).toNatClampNeg → ∃ i j : Nat, i < 64 ∧ j ≤ 64 ∧ gCS_fst (gPW_C (cit z u).2) = nI i ∧ gCS_cnt (gPW_C (cit z u).2) = nI j := by
  obtain ⟨t, w, inp, ins, cmd, due, q, rfl, hI, hj, hq⟩ := rel_inv h
  intro z _
  obtain ⟨_, _, _, _, _, _, _, hI1, _, _⟩ := R_it (0 : Int32) w hI hj z
  obtain ⟨i, j, hi, hj, e1, e2, _, _⟩ := hI1.2.1
  exact ⟨i, j, hi, hj, e1, e2⟩
theorem R_hM {n : Nat} {u : PW} {v : MW} {a1 : Int32} (hn : n < 512) (h : Rel n u v) : bI (if a1 < (0 : Int32) then true else (if a1 ≤ (3000 : Int32) then false else true : Bool) : Bool) = 0 → ∀ j, j < (a1).toNatClampNeg → mOK (mit j (sMW_thr v (bI (if a1 < (0 : Int32) then true else (if a1 ≤ (3000 : Int32) then false else true : Bool) : Bool)))).2 := by
  obtain ⟨t, w, inp, ins, cmd, due, q, rfl, hI, hj, hq⟩ := rel_inv h
  intro hT z hz
  have T := (bI_eq0 _).mp hT
  have hb : a1.toNatClampNeg ≤ 3000 := by
    rcases rng a1 3000 (by decide) with r | ⟨r, r1, r2⟩ | ⟨r, r1, r2, j, hj9, ej⟩
    · rw [if_pos r] at T; exact absurd T (by decide)
    · rw [if_neg r, if_neg (show ¬ a1 ≤ (3000 : Int32) from r2)] at T; exact absurd T (by decide)
    · rw [ej, nI_clamp (by omega)]; exact hj9
  obtain ⟨w', inp', ins', cmd', due', q', e1, hI1, hj1, hq1⟩ := R_it (bI (if a1 < (0 : Int32) then true else (if a1 ≤ (3000 : Int32) then false else true : Bool) : Bool)) w hI hj z
  rw [M_thr, e1 (by omega)]
  obtain ⟨_, _, _, _, _, e2, _, _, _⟩ := R_turn (t := bI (if a1 < (0 : Int32) then true else (if a1 ≤ (3000 : Int32) then false else true : Bool) : Bool)) (w := w') hI1
  exact (e2 (by omega)).2
theorem R_up {n : Nat} {u : PW} {v : MW} (h : Rel n u v) : Rel (n + 1) u v := by
  exact R_up0 h
