theorem ix_wr {a : Int32} {b : Bool} (h : bI (if bI (f_X7_noPlace a) = 0 then b else true : Bool) ≤ 0) : vp_in a 4096 := by
  by_cases q : bI (f_X7_noPlace a) = 0
  · have q2 := (bI_eq0 _).mp q
    unfold f_X7_noPlace at q2
    by_cases h1 : a < 0
    · rw [if_pos h1] at q2; cases q2
    · rw [if_neg h1] at q2
      by_cases h2 : a < 4096
      · obtain ⟨j, hj, rfl⟩ := nI_of h1
        exact vp_in_nI ((nI_ltI (b := 4096) hj (by decide)).mp h2) (by decide)
      · rw [if_neg h2] at q2; cases q2
  · rw [if_neg q] at h
    exact absurd h (by decide)
theorem ix_rg {a : Int32} (h : bI (if a < 0 then true else (if a ≤ 9 then false else true : Bool) : Bool) ≤ 0) (h6 : ¬ a = 6) (h8 : ¬ a = 8) (h9 : ¬ a = 9) : vp_in a 8 := by
  by_cases h1 : a < 0
  · rw [if_pos h1] at h; exact absurd h (by decide)
  · rw [if_neg h1] at h
    by_cases h2 : a ≤ 9
    · obtain ⟨j, hj, rfl⟩ := nI_of h1
      have h3 := (nI_leI (b := 9) hj (by decide)).mp h2
      have e8 : ¬ j = 8 := fun z => h8 (by rw [z]; rfl)
      have e9 : ¬ j = 9 := fun z => h9 (by rw [z]; rfl)
      exact vp_in_nI (by omega) (by decide)
    · rw [if_neg h2] at h; exact absurd h (by decide)
theorem ix_ty {x : Int32} (h : ∃ q : Nat, q ≤ 64 ∧ x = nI q) (h2 : ¬ x = 64) : vp_in x 64 := by
  obtain ⟨q, hq, rfl⟩ := h
  have : ¬ q = 64 := fun z => h2 (by rw [z]; rfl)
  exact vp_in_nI (by omega) (by decide)
theorem ix_rem {x : Int32} (h : ¬ x < 0) : vp_in (x - x / 256 * 256) 256 := by
  obtain ⟨j, hj, rfl⟩ := nI_of h
  rw [show (256 : Int32) = nI 256 from by decide, pk_rem hj (by decide) (by decide)]
  exact vp_in_nI (Nat.mod_lt _ (by decide)) (by decide)
theorem ix_tx {x : Int32} {b : Bool} (h : bI (if x < 0 then true else b : Bool) ≤ 0) : vp_in (x - x / 256 * 256) 256 := by
  by_cases h1 : x < 0
  · rw [if_pos h1] at h; exact absurd h (by decide)
  · exact ix_rem h1

def f_X7_write (u : MW) (a1 : Int32) (a2 : Int32) : Int32 × MW := 
  if (gMW_thr (sMW_thr u (bI (if (bI (f_X7_noPlace a1)) = (0 : Int32) then (if (bI (f_X7_noByte a2)) = (0 : Int32) then false else true : Bool) else true : Bool)))) ≤ (0 : Int32) then (((gMW_m (sMW_thr u (bI (if (bI (f_X7_noPlace a1)) = (0 : Int32) then (if (bI (f_X7_noByte a2)) = (0 : Int32) then false else true : Bool) else true : Bool)))) (a1 : Int32).toNatClampNeg), (sMW_m (sMW_thr u (bI (if (bI (f_X7_noPlace a1)) = (0 : Int32) then (if (bI (f_X7_noByte a2)) = (0 : Int32) then false else true : Bool) else true : Bool))) (upd (gMW_m (sMW_thr u (bI (if (bI (f_X7_noPlace a1)) = (0 : Int32) then (if (bI (f_X7_noByte a2)) = (0 : Int32) then false else true : Bool) else true : Bool)))) (a1 : Int32).toNatClampNeg a2)))
  else (0, (sMW_thr u (bI (if (bI (f_X7_noPlace a1)) = (0 : Int32) then (if (bI (f_X7_noByte a2)) = (0 : Int32) then false else true : Bool) else true : Bool))))
theorem qX7_write_0 : Cond.fieldLink RX7 29 "DiskMachineModel" "thrown" "I" ∈ wsX7_write := by decide +kernel
theorem qX7_write_1 : Cond.fieldLink RX7 7 "DiskMachineModel" "memory" "[I" ∈ wsX7_write := by decide +kernel
theorem iX7_write_X7 : ∀ w ∈ wsX70, w ∈ wsX7_write := by decide +kernel
set_option maxHeartbeats 4000000 in
set_option maxRecDepth 100000 in
theorem k_X7_write (l : Launch) (dC : Nat → ClassId) (dI : Nat → Nat → Nat) (cI : ClassId) (mO memA dskA rgA inA outA : Nat) (sz : Nat) (u : MW) (a1 : Int32) (a2 : Int32) : Met l yX7_write wsX7_write ({ frames := 1, cells := 0, slots := 0, locals := 20 }) (va_Pc [.ref mO, .int a1, .int a2] (wB dC dI [(cI, .int)] sz (wM cI mO memA dskA rgA inA outA u))) (va_Qi (fun (r : Int32) (u' : MW) => r = (f_X7_write u a1 a2).1 ∧ u' = (f_X7_write u a1 a2).2) (fun u' => wE dC dI [(cI, .int)] (va_A (wM cI mO memA dskA rgA inA outA u) sz) (wM cI mO memA dskA rgA inA outA u')) (va_A (wM cI mO memA dskA rgA inA outA u) sz)) 0 0 (va_A (wM cI mO memA dskA rgA inA outA u) sz) := by
  refine Met.ofW (cc := cX7_write) (maxL := 4) (ret := (some .int)) (by decide) rfl ?_
  intro p e s m args below meth c s₁ B hml hv
  obtain ⟨rfl, hsz, hP, hK, hD0⟩ := hv
  have hx := B.exec
  have hb := B.bytes
  have hr := B.returns
  have hts := atoms_spec (ws := wsX7_write) B.pre
  have hown : s.vm.findClass RX7 = some m.cls := findClass_of_methodNamed B.named
  have hlocks := B.notSynchronized
  subst hsz
  have hD := hD0.self (sz := s.heap.size)
  generalize hAe : va_A (wM cI mO memA dskA rgA inA outA u) s.heap.size = A at hD ⊢
  have hA : ∀ q : Nat, s.heap.size ≤ q → A q := fun q h => by rw [← hAe]; exact Or.inr h
  have hS : va_S A s.heap s.heap [] := va_S.rf
  have hP : va_P (dC, dI) vwCl (wM cI mO memA dskA rgA inA outA u) s.heap := hP
  clear hAe hD0
  have hl := lv_entry ([.ref mO, .int a1, .int a2]) (n := 4) (Nat.le_of_ble_eq_true rfl)
  rw [lg_entry_eq]
  generalize (lg_sl ([.ref mO, .int a1, .int a2]) ++ List.replicate (4 - (lg_sl ([.ref mO, .int a1, .int a2])).length) Slot.unset).toArray = ls at hl ⊢
  have hl : lv_has ls 4 [(0, .ref mO), (1, .int a1), (2, .int a2)] := hl
  refine jn_H hP hS (fun H locs hP hS => ?_)
  refine lv_aload_n hx hb dX7_write_0 rfl (lv_at hl 0 rfl) ?_
  refine lv_iload_n hx hb dX7_write_1 rfl (lv_at hl 1 rfl) ?_
  have hPc := hP.sub (ws' := ([] : va_W)) [] rfl
  have hDc := hD.sub (ws' := ([] : va_W)) [] (by decide) rfl
  have hFc := va_free (wc := ([] : va_W)) hD hS hA [] rfl
  have hKc := hK.sub (tys' := []) [] rfl
  refine va_calli (va_runS (As := [.int a1]) (rest := [.ref mO]) ⟨hx, hb, hml, hown, hts⟩ (k_X7_noPlace l dC dI H.size a1) (va_cwS 1 hts gX7_write_X7_noPlace rfl rfl rfl (by decide +kernel) ⟨Nat.le_of_ble_eq_true rfl, Nat.le_of_ble_eq_true rfl⟩) ⟨fun a U g mk q => by obtain ⟨q0, q1, qP, qK, qD⟩ := q; exact ⟨q0, q1, qP, va_K.moved (u := U) (U := U.calling g mk a) (Vm.Alike.refl U.vm) qK, qD⟩, fun U hU hW => ⟨rfl, by rw [hU], by rw [hU]; exact hPc, va_K.moved hW.alike hKc, hDc.weaken (fun _ _ _ _ => trivial)⟩⟩ rfl rfl hl.1 rfl (lv_room (Nat.le_of_ble_eq_true rfl)) dX7_write_2 ⟨Nat.le_of_ble_eq_true rfl, Nat.le_of_ble_eq_true rfl⟩) hS (fun q _ h => hFc q h) hFc (fun r9 u9 t H1 locs ht hvm hw hB hz1 hk1 hS => ?_)
  obtain ⟨hw1, hw2⟩ := hw
  have hw2 := hw2.symm
  subst hw1 hw2
  obtain ⟨hP1, hK1, hD1⟩ := hB
  rw [ht] at hP1
  obtain ⟨hP, hD⟩ := jN_any (ws := (wM cI mO memA dskA rgA inA outA u)) hP hD hk1
  clear hPc hDc hKc hFc hz1 hk1 hP1 hK1 hD1 ht hvm
  generalize H1 = H at hP hS ⊢
  refine jn_b (D := (dC, dI)) (cl := vwCl) (ws := (wM cI mO memA dskA rgA inA outA u)) (A := A) (H0 := s.heap) (nL := 4) 20 (if (bI (f_X7_noPlace a1)) = (0 : Int32) then (if (bI (f_X7_noByte a2)) = (0 : Int32) then false else true : Bool) else true : Bool) [(0, .ref mO), (1, .int a1), (2, .int a2)] [.ref mO] (fun H locs ls hP hS hl => ?_) (fun hJ1 => ?_)
  · skip
    refine va_put (D := (dC, dI)) (ci := 7) (v := .int (bI (if (bI (f_X7_noPlace a1)) = (0 : Int32) then (if (bI (f_X7_noByte a2)) = (0 : Int32) then false else true : Bool) else true : Bool))) (ty := .int) (C := RX7) (T := TX7) (N := 30) hx hb hts iX7_write_X7 tyX7 tyX7_ok nmX7 hown hK hP hD hS 0 rfl rfl 0 (by decide) (hts _ qX7_write_0) (fun _ h9 => h9) rfl (by decide +kernel) rfl rfl (Nat.le_of_ble_eq_true rfl) dX7_write_20 (fun H locs hP hD hS => ?_)
    obtain ⟨hP, hD⟩ := pM_thr hP hD
    refine lv_aload_n hx hb dX7_write_23 rfl (lv_at hl 0 rfl) ?_
    refine va_get (D := (dC, dI)) (ci := 7) (v := .int (gMW_thr (sMW_thr u (bI (if (bI (f_X7_noPlace a1)) = (0 : Int32) then (if (bI (f_X7_noByte a2)) = (0 : Int32) then false else true : Bool) else true : Bool))))) (C := RX7) (T := TX7) (N := 30) hx hb hts iX7_write_X7 hown hK hP 0 rfl rfl 0 (by decide) (hts _ qX7_write_0) (fun _ h9 => h9) rfl dX7_write_24 ?_
    refine lv_if_le (tgt := 32) hx hb dX7_write_27 (by decide) (fun c2 => ?_) (fun c2 => ?_)
    · skip
      refine lv_aload_n hx hb dX7_write_32 rfl (lv_at hl 0 rfl) ?_
      refine va_get (D := (dC, dI)) (ci := 7) (v := .ref memA) (C := RX7) (T := TX7) (N := 30) hx hb hts iX7_write_X7 hown hK hP 0 rfl rfl 1 (by decide) (hts _ qX7_write_1) (fun _ h9 => h9) rfl dX7_write_33 ?_
      refine lv_iload_n hx hb dX7_write_36 rfl (lv_at hl 1 rfl) ?_
      refine va_iald (f := (gMW_m (sMW_thr u (bI (if (bI (f_X7_noPlace a1)) = (0 : Int32) then (if (bI (f_X7_noByte a2)) = (0 : Int32) then false else true : Bool) else true : Bool))))) hx hb hK hP 1 0 rfl rfl (ix_wr c2) dX7_write_37 ?_
      refine lv_topi (fun y3 ey3 => ?_)
      refine lv_istore_n (lv' := [(3, .int y3), (0, .ref mO), (1, .int a1), (2, .int a2)]) hx hb dX7_write_38 rfl hl (by decide) rfl (fun ls hl => ?_)
      refine lv_aload_n hx hb dX7_write_39 rfl (lv_at hl 1 rfl) ?_
      refine va_get (D := (dC, dI)) (ci := 7) (v := .ref memA) (C := RX7) (T := TX7) (N := 30) hx hb hts iX7_write_X7 hown hK hP 0 rfl rfl 1 (by decide) (hts _ qX7_write_1) (fun _ h9 => h9) rfl dX7_write_40 ?_
      refine lv_iload_n hx hb dX7_write_43 rfl (lv_at hl 2 rfl) ?_
      refine lv_iload_n hx hb dX7_write_44 rfl (lv_at hl 3 rfl) ?_
      refine va_iast (f := (gMW_m (sMW_thr u (bI (if (bI (f_X7_noPlace a1)) = (0 : Int32) then (if (bI (f_X7_noByte a2)) = (0 : Int32) then false else true : Bool) else true : Bool))))) hx hb hK hP hD hS 1 0 rfl rfl (ix_wr c2) dX7_write_45 (fun H locs hP hD hS => ?_)
      obtain ⟨hP, hD⟩ := aM_memA hP hD
      refine lv_iload_n hx hb dX7_write_46 rfl (lv_at hl 0 rfl) ?_
      exact W.iret (v := y3) hx hb hr (fun t ht hW => ⟨⟨y3, (sMW_m (sMW_thr u (bI (if (bI (f_X7_noPlace a1)) = (0 : Int32) then (if (bI (f_X7_noByte a2)) = (0 : Int32) then false else true : Bool) else true : Bool))) (upd (gMW_m (sMW_thr u (bI (if (bI (f_X7_noPlace a1)) = (0 : Int32) then (if (bI (f_X7_noByte a2)) = (0 : Int32) then false else true : Bool) else true : Bool)))) (a1 : Int32).toNatClampNeg a2)), rfl, ⟨(by subst ey3; simp only [f_X7_write, if_pos c2]), (by subst ey3; simp only [f_X7_write, if_pos c2])⟩, by rw [ht]; exact hP, va_K.moved hW.alike hK, hD⟩, hS.F ht⟩) hS.2.2 dX7_write_47
    · skip
      refine lv_iconst (v := 0) hx hb dX7_write_30 (by decide) ?_
      exact W.iret (v := 0) hx hb hr (fun t ht hW => ⟨⟨0, (sMW_thr u (bI (if (bI (f_X7_noPlace a1)) = (0 : Int32) then (if (bI (f_X7_noByte a2)) = (0 : Int32) then false else true : Bool) else true : Bool))), rfl, ⟨(by simp only [f_X7_write, if_neg c2]), (by simp only [f_X7_write, if_neg c2])⟩, by rw [ht]; exact hP, va_K.moved hW.alike hK, hD⟩, hS.F ht⟩) hS.2.2 dX7_write_31
  · skip
    refine lv_if_ne (tgt := 15) hx hb dX7_write_5 (by decide) (fun c4 => ?_) (fun c4 => ?_)
    · skip
      refine lv_iconst (v := 1) hx hb dX7_write_15 (by decide) ?_
      refine lv_goto (tgt := 20) hx hb dX7_write_16 (by decide) ?_
      exact hJ1 true _ _ _ (by simp only [if_neg c4]) hP hS (lv_sub hl [0, 1, 2] rfl)
    · skip
      refine lv_iload_n hx hb dX7_write_8 rfl (lv_at hl 2 rfl) ?_
      have hPc := hP.sub (ws' := ([] : va_W)) [] rfl
      have hDc := hD.sub (ws' := ([] : va_W)) [] (by decide) rfl
      have hFc := va_free (wc := ([] : va_W)) hD hS hA [] rfl
      have hKc := hK.sub (tys' := []) [] rfl
      refine va_calli (va_runS (As := [.int a2]) (rest := [.ref mO]) ⟨hx, hb, hml, hown, hts⟩ (k_X7_noByte l dC dI H.size a2) (va_cwS 1 hts gX7_write_X7_noByte rfl rfl rfl (by decide +kernel) ⟨Nat.le_of_ble_eq_true rfl, Nat.le_of_ble_eq_true rfl⟩) ⟨fun a U g mk q => by obtain ⟨q0, q1, qP, qK, qD⟩ := q; exact ⟨q0, q1, qP, va_K.moved (u := U) (U := U.calling g mk a) (Vm.Alike.refl U.vm) qK, qD⟩, fun U hU hW => ⟨rfl, by rw [hU], by rw [hU]; exact hPc, va_K.moved hW.alike hKc, hDc.weaken (fun _ _ _ _ => trivial)⟩⟩ rfl rfl hl.1 rfl (lv_room (Nat.le_of_ble_eq_true rfl)) dX7_write_9 ⟨Nat.le_of_ble_eq_true rfl, Nat.le_of_ble_eq_true rfl⟩) hS (fun q _ h => hFc q h) hFc (fun r9 u9 t H1 locs ht hvm hw hB hz1 hk1 hS => ?_)
      obtain ⟨hw1, hw2⟩ := hw
      have hw2 := hw2.symm
      subst hw1 hw2
      obtain ⟨hP1, hK1, hD1⟩ := hB
      rw [ht] at hP1
      obtain ⟨hP, hD⟩ := jN_any (ws := (wM cI mO memA dskA rgA inA outA u)) hP hD hk1
      clear hPc hDc hKc hFc hz1 hk1 hP1 hK1 hD1 ht hvm
      generalize H1 = H at hP hS ⊢
      refine jn_b (D := (dC, dI)) (cl := vwCl) (ws := (wM cI mO memA dskA rgA inA outA u)) (A := A) (H0 := s.heap) (nL := 4) 20 (if (bI (f_X7_noByte a2)) = (0 : Int32) then false else true : Bool) [(0, .ref mO), (1, .int a1), (2, .int a2)] [.ref mO] (fun H locs ls hP hS hl => ?_) (fun hJ5 => ?_)
      · skip
        exact hJ1 (if (bI (f_X7_noByte a2)) = (0 : Int32) then false else true : Bool) _ _ _ (by simp only [if_pos c4]) hP hS (lv_sub hl [0, 1, 2] rfl)
      · skip
        refine lv_if_eq (tgt := 19) hx hb dX7_write_12 (by decide) (fun c6 => ?_) (fun c6 => ?_)
        · skip
          refine lv_iconst (v := 0) hx hb dX7_write_19 (by decide) ?_
          exact hJ5 false _ _ _ (by simp only [if_pos c6]) hP hS (lv_sub hl [0, 1, 2] rfl)
        · skip
          refine lv_iconst (v := 1) hx hb dX7_write_15 (by decide) ?_
          refine lv_goto (tgt := 20) hx hb dX7_write_16 (by decide) ?_
          exact hJ5 true _ _ _ (by simp only [if_neg c6]) hP hS (lv_sub hl [0, 1, 2] rfl)

def f_X7_read (u : MW) (a1 : Int32) : Int32 × MW := ((if (gMW_thr (sMW_thr u (bI (if (bI (f_X7_noPlace a1)) = (0 : Int32) then false else true : Bool)))) ≤ (0 : Int32) then ((gMW_m (sMW_thr u (bI (if (bI (f_X7_noPlace a1)) = (0 : Int32) then false else true : Bool)))) (a1 : Int32).toNatClampNeg) else 0 : Int32), (sMW_thr u (bI (if (bI (f_X7_noPlace a1)) = (0 : Int32) then false else true : Bool))))
theorem qX7_read_0 : Cond.fieldLink RX7 29 "DiskMachineModel" "thrown" "I" ∈ wsX7_read := by decide +kernel
theorem qX7_read_1 : Cond.fieldLink RX7 7 "DiskMachineModel" "memory" "[I" ∈ wsX7_read := by decide +kernel
theorem iX7_read_X7 : ∀ w ∈ wsX70, w ∈ wsX7_read := by decide +kernel
set_option maxHeartbeats 4000000 in
set_option maxRecDepth 100000 in
theorem k_X7_read (l : Launch) (dC : Nat → ClassId) (dI : Nat → Nat → Nat) (cI : ClassId) (mO memA dskA rgA inA outA : Nat) (sz : Nat) (u : MW) (a1 : Int32) : Met l yX7_read wsX7_read ({ frames := 1, cells := 0, slots := 0, locals := 20 }) (va_Pc [.ref mO, .int a1] (wB dC dI [(cI, .int)] sz (wM cI mO memA dskA rgA inA outA u))) (va_Qi (fun (r : Int32) (u' : MW) => r = (f_X7_read u a1).1 ∧ u' = (f_X7_read u a1).2) (fun u' => wE dC dI [(cI, .int)] (va_A (wM cI mO memA dskA rgA inA outA u) sz) (wM cI mO memA dskA rgA inA outA u')) (va_A (wM cI mO memA dskA rgA inA outA u) sz)) 0 0 (va_A (wM cI mO memA dskA rgA inA outA u) sz) := by
  refine Met.ofW (cc := cX7_read) (maxL := 2) (ret := (some .int)) (by decide) rfl ?_
  intro p e s m args below meth c s₁ B hml hv
  obtain ⟨rfl, hsz, hP, hK, hD0⟩ := hv
  have hx := B.exec
  have hb := B.bytes
  have hr := B.returns
  have hts := atoms_spec (ws := wsX7_read) B.pre
  have hown : s.vm.findClass RX7 = some m.cls := findClass_of_methodNamed B.named
  have hlocks := B.notSynchronized
  subst hsz
  have hD := hD0.self (sz := s.heap.size)
  generalize hAe : va_A (wM cI mO memA dskA rgA inA outA u) s.heap.size = A at hD ⊢
  have hA : ∀ q : Nat, s.heap.size ≤ q → A q := fun q h => by rw [← hAe]; exact Or.inr h
  have hS : va_S A s.heap s.heap [] := va_S.rf
  have hP : va_P (dC, dI) vwCl (wM cI mO memA dskA rgA inA outA u) s.heap := hP
  clear hAe hD0
  have hl := lv_entry ([.ref mO, .int a1]) (n := 2) (Nat.le_of_ble_eq_true rfl)
  rw [lg_entry_eq]
  generalize (lg_sl ([.ref mO, .int a1]) ++ List.replicate (2 - (lg_sl ([.ref mO, .int a1])).length) Slot.unset).toArray = ls at hl ⊢
  have hl : lv_has ls 2 [(0, .ref mO), (1, .int a1)] := hl
  refine jn_H hP hS (fun H locs hP hS => ?_)
  refine lv_aload_n hx hb dX7_read_0 rfl (lv_at hl 0 rfl) ?_
  refine lv_iload_n hx hb dX7_read_1 rfl (lv_at hl 1 rfl) ?_
  have hPc := hP.sub (ws' := ([] : va_W)) [] rfl
  have hDc := hD.sub (ws' := ([] : va_W)) [] (by decide) rfl
  have hFc := va_free (wc := ([] : va_W)) hD hS hA [] rfl
  have hKc := hK.sub (tys' := []) [] rfl
  refine va_calli (va_runS (As := [.int a1]) (rest := [.ref mO]) ⟨hx, hb, hml, hown, hts⟩ (k_X7_noPlace l dC dI H.size a1) (va_cwS 1 hts gX7_read_X7_noPlace rfl rfl rfl (by decide +kernel) ⟨Nat.le_of_ble_eq_true rfl, Nat.le_of_ble_eq_true rfl⟩) ⟨fun a U g mk q => by obtain ⟨q0, q1, qP, qK, qD⟩ := q; exact ⟨q0, q1, qP, va_K.moved (u := U) (U := U.calling g mk a) (Vm.Alike.refl U.vm) qK, qD⟩, fun U hU hW => ⟨rfl, by rw [hU], by rw [hU]; exact hPc, va_K.moved hW.alike hKc, hDc.weaken (fun _ _ _ _ => trivial)⟩⟩ rfl rfl hl.1 rfl (lv_room (Nat.le_of_ble_eq_true rfl)) dX7_read_2 ⟨Nat.le_of_ble_eq_true rfl, Nat.le_of_ble_eq_true rfl⟩) hS (fun q _ h => hFc q h) hFc (fun r9 u9 t H1 locs ht hvm hw hB hz1 hk1 hS => ?_)
  obtain ⟨hw1, hw2⟩ := hw
  have hw2 := hw2.symm
  subst hw1 hw2
  obtain ⟨hP1, hK1, hD1⟩ := hB
  rw [ht] at hP1
  obtain ⟨hP, hD⟩ := jN_any (ws := (wM cI mO memA dskA rgA inA outA u)) hP hD hk1
  clear hPc hDc hKc hFc hz1 hk1 hP1 hK1 hD1 ht hvm
  generalize H1 = H at hP hS ⊢
  refine jn_b (D := (dC, dI)) (cl := vwCl) (ws := (wM cI mO memA dskA rgA inA outA u)) (A := A) (H0 := s.heap) (nL := 2) 13 (if (bI (f_X7_noPlace a1)) = (0 : Int32) then false else true : Bool) [(0, .ref mO), (1, .int a1)] [.ref mO] (fun H locs ls hP hS hl => ?_) (fun hJ1 => ?_)
  · skip
    refine va_put (D := (dC, dI)) (ci := 7) (v := .int (bI (if (bI (f_X7_noPlace a1)) = (0 : Int32) then false else true : Bool))) (ty := .int) (C := RX7) (T := TX7) (N := 30) hx hb hts iX7_read_X7 tyX7 tyX7_ok nmX7 hown hK hP hD hS 0 rfl rfl 0 (by decide) (hts _ qX7_read_0) (fun _ h9 => h9) rfl (by decide +kernel) rfl rfl (Nat.le_of_ble_eq_true rfl) dX7_read_13 (fun H locs hP hD hS => ?_)
    obtain ⟨hP, hD⟩ := pM_thr hP hD
    refine lv_aload_n hx hb dX7_read_16 rfl (lv_at hl 0 rfl) ?_
    refine va_get (D := (dC, dI)) (ci := 7) (v := .int (gMW_thr (sMW_thr u (bI (if (bI (f_X7_noPlace a1)) = (0 : Int32) then false else true : Bool))))) (C := RX7) (T := TX7) (N := 30) hx hb hts iX7_read_X7 hown hK hP 0 rfl rfl 0 (by decide) (hts _ qX7_read_0) (fun _ h9 => h9) rfl dX7_read_17 ?_
    refine jn_i (D := (dC, dI)) (cl := vwCl) (ws := (wM cI mO memA dskA rgA inA outA (sMW_thr u (bI (if (bI (f_X7_noPlace a1)) = (0 : Int32) then false else true : Bool))))) (A := A) (H0 := s.heap) (nL := 2) 33 (if (gMW_thr (sMW_thr u (bI (if (bI (f_X7_noPlace a1)) = (0 : Int32) then false else true : Bool)))) ≤ (0 : Int32) then ((gMW_m (sMW_thr u (bI (if (bI (f_X7_noPlace a1)) = (0 : Int32) then false else true : Bool)))) (a1 : Int32).toNatClampNeg) else 0 : Int32) [(0, .ref mO), (1, .int a1)] [] (fun H locs ls hP hS hl => ?_) (fun hJ2 => ?_)
    · skip
      exact W.iret (v := (if (gMW_thr (sMW_thr u (bI (if (bI (f_X7_noPlace a1)) = (0 : Int32) then false else true : Bool)))) ≤ (0 : Int32) then ((gMW_m (sMW_thr u (bI (if (bI (f_X7_noPlace a1)) = (0 : Int32) then false else true : Bool)))) (a1 : Int32).toNatClampNeg) else 0 : Int32)) hx hb hr (fun t ht hW => ⟨⟨(if (gMW_thr (sMW_thr u (bI (if (bI (f_X7_noPlace a1)) = (0 : Int32) then false else true : Bool)))) ≤ (0 : Int32) then ((gMW_m (sMW_thr u (bI (if (bI (f_X7_noPlace a1)) = (0 : Int32) then false else true : Bool)))) (a1 : Int32).toNatClampNeg) else 0 : Int32), (sMW_thr u (bI (if (bI (f_X7_noPlace a1)) = (0 : Int32) then false else true : Bool))), rfl, ⟨rfl, rfl⟩, by rw [ht]; exact hP, va_K.moved hW.alike hK, hD⟩, hS.F ht⟩) hS.2.2 dX7_read_33
    · skip
      refine lv_if_le (tgt := 27) hx hb dX7_read_20 (by decide) (fun c3 => ?_) (fun c3 => ?_)
      · skip
        refine lv_aload_n hx hb dX7_read_27 rfl (lv_at hl 0 rfl) ?_
        refine va_get (D := (dC, dI)) (ci := 7) (v := .ref memA) (C := RX7) (T := TX7) (N := 30) hx hb hts iX7_read_X7 hown hK hP 0 rfl rfl 1 (by decide) (hts _ qX7_read_1) (fun _ h9 => h9) rfl dX7_read_28 ?_
        refine lv_iload_n hx hb dX7_read_31 rfl (lv_at hl 1 rfl) ?_
        refine va_iald (f := (gMW_m (sMW_thr u (bI (if (bI (f_X7_noPlace a1)) = (0 : Int32) then false else true : Bool))))) hx hb hK hP 1 0 rfl rfl (ix_wr c3) dX7_read_32 ?_
        exact hJ2 ((gMW_m (sMW_thr u (bI (if (bI (f_X7_noPlace a1)) = (0 : Int32) then false else true : Bool)))) (a1 : Int32).toNatClampNeg) _ _ _ (by simp only [if_pos c3]) hP hS (lv_sub hl [0, 1] rfl)
      · skip
        refine lv_iconst (v := 0) hx hb dX7_read_23 (by decide) ?_
        refine lv_goto (tgt := 33) hx hb dX7_read_24 (by decide) ?_
        exact hJ2 0 _ _ _ (by simp only [if_neg c3]) hP hS (lv_sub hl [0, 1] rfl)
  · skip
    refine lv_if_eq (tgt := 12) hx hb dX7_read_5 (by decide) (fun c4 => ?_) (fun c4 => ?_)
    · skip
      refine lv_iconst (v := 0) hx hb dX7_read_12 (by decide) ?_
      exact hJ1 false _ _ _ (by simp only [if_pos c4]) hP hS (lv_sub hl [0, 1] rfl)
    · skip
      refine lv_iconst (v := 1) hx hb dX7_read_8 (by decide) ?_
      refine lv_goto (tgt := 13) hx hb dX7_read_9 (by decide) ?_
      exact hJ1 true _ _ _ (by simp only [if_neg c4]) hP hS (lv_sub hl [0, 1] rfl)

def f_X7_writeDisk (u : MW) (a1 : Int32) (a2 : Int32) : Int32 × MW := 
  if (gMW_thr (sMW_thr u (bI (if (bI (f_X7_noPlace a1)) = (0 : Int32) then (if (bI (f_X7_noByte a2)) = (0 : Int32) then false else true : Bool) else true : Bool)))) ≤ (0 : Int32) then (((gMW_d (sMW_thr u (bI (if (bI (f_X7_noPlace a1)) = (0 : Int32) then (if (bI (f_X7_noByte a2)) = (0 : Int32) then false else true : Bool) else true : Bool)))) (a1 : Int32).toNatClampNeg), (sMW_d (sMW_thr u (bI (if (bI (f_X7_noPlace a1)) = (0 : Int32) then (if (bI (f_X7_noByte a2)) = (0 : Int32) then false else true : Bool) else true : Bool))) (upd (gMW_d (sMW_thr u (bI (if (bI (f_X7_noPlace a1)) = (0 : Int32) then (if (bI (f_X7_noByte a2)) = (0 : Int32) then false else true : Bool) else true : Bool)))) (a1 : Int32).toNatClampNeg a2)))
  else (0, (sMW_thr u (bI (if (bI (f_X7_noPlace a1)) = (0 : Int32) then (if (bI (f_X7_noByte a2)) = (0 : Int32) then false else true : Bool) else true : Bool))))
theorem qX7_writeDisk_0 : Cond.fieldLink RX7 29 "DiskMachineModel" "thrown" "I" ∈ wsX7_writeDisk := by decide +kernel
theorem qX7_writeDisk_1 : Cond.fieldLink RX7 13 "DiskMachineModel" "disk" "[I" ∈ wsX7_writeDisk := by decide +kernel
theorem iX7_writeDisk_X7 : ∀ w ∈ wsX70, w ∈ wsX7_writeDisk := by decide +kernel
set_option maxHeartbeats 4000000 in
set_option maxRecDepth 100000 in
theorem k_X7_writeDisk (l : Launch) (dC : Nat → ClassId) (dI : Nat → Nat → Nat) (cI : ClassId) (mO memA dskA rgA inA outA : Nat) (sz : Nat) (u : MW) (a1 : Int32) (a2 : Int32) : Met l yX7_writeDisk wsX7_writeDisk ({ frames := 1, cells := 0, slots := 0, locals := 20 }) (va_Pc [.ref mO, .int a1, .int a2] (wB dC dI [(cI, .int)] sz (wM cI mO memA dskA rgA inA outA u))) (va_Qi (fun (r : Int32) (u' : MW) => r = (f_X7_writeDisk u a1 a2).1 ∧ u' = (f_X7_writeDisk u a1 a2).2) (fun u' => wE dC dI [(cI, .int)] (va_A (wM cI mO memA dskA rgA inA outA u) sz) (wM cI mO memA dskA rgA inA outA u')) (va_A (wM cI mO memA dskA rgA inA outA u) sz)) 0 0 (va_A (wM cI mO memA dskA rgA inA outA u) sz) := by
  refine Met.ofW (cc := cX7_writeDisk) (maxL := 4) (ret := (some .int)) (by decide) rfl ?_
  intro p e s m args below meth c s₁ B hml hv
  obtain ⟨rfl, hsz, hP, hK, hD0⟩ := hv
  have hx := B.exec
  have hb := B.bytes
  have hr := B.returns
  have hts := atoms_spec (ws := wsX7_writeDisk) B.pre
  have hown : s.vm.findClass RX7 = some m.cls := findClass_of_methodNamed B.named
  have hlocks := B.notSynchronized
  subst hsz
  have hD := hD0.self (sz := s.heap.size)
  generalize hAe : va_A (wM cI mO memA dskA rgA inA outA u) s.heap.size = A at hD ⊢
  have hA : ∀ q : Nat, s.heap.size ≤ q → A q := fun q h => by rw [← hAe]; exact Or.inr h
  have hS : va_S A s.heap s.heap [] := va_S.rf
  have hP : va_P (dC, dI) vwCl (wM cI mO memA dskA rgA inA outA u) s.heap := hP
  clear hAe hD0
  have hl := lv_entry ([.ref mO, .int a1, .int a2]) (n := 4) (Nat.le_of_ble_eq_true rfl)
  rw [lg_entry_eq]
  generalize (lg_sl ([.ref mO, .int a1, .int a2]) ++ List.replicate (4 - (lg_sl ([.ref mO, .int a1, .int a2])).length) Slot.unset).toArray = ls at hl ⊢
  have hl : lv_has ls 4 [(0, .ref mO), (1, .int a1), (2, .int a2)] := hl
  refine jn_H hP hS (fun H locs hP hS => ?_)
  refine lv_aload_n hx hb dX7_writeDisk_0 rfl (lv_at hl 0 rfl) ?_
  refine lv_iload_n hx hb dX7_writeDisk_1 rfl (lv_at hl 1 rfl) ?_
  have hPc := hP.sub (ws' := ([] : va_W)) [] rfl
  have hDc := hD.sub (ws' := ([] : va_W)) [] (by decide) rfl
  have hFc := va_free (wc := ([] : va_W)) hD hS hA [] rfl
  have hKc := hK.sub (tys' := []) [] rfl
  refine va_calli (va_runS (As := [.int a1]) (rest := [.ref mO]) ⟨hx, hb, hml, hown, hts⟩ (k_X7_noPlace l dC dI H.size a1) (va_cwS 1 hts gX7_writeDisk_X7_noPlace rfl rfl rfl (by decide +kernel) ⟨Nat.le_of_ble_eq_true rfl, Nat.le_of_ble_eq_true rfl⟩) ⟨fun a U g mk q => by obtain ⟨q0, q1, qP, qK, qD⟩ := q; exact ⟨q0, q1, qP, va_K.moved (u := U) (U := U.calling g mk a) (Vm.Alike.refl U.vm) qK, qD⟩, fun U hU hW => ⟨rfl, by rw [hU], by rw [hU]; exact hPc, va_K.moved hW.alike hKc, hDc.weaken (fun _ _ _ _ => trivial)⟩⟩ rfl rfl hl.1 rfl (lv_room (Nat.le_of_ble_eq_true rfl)) dX7_writeDisk_2 ⟨Nat.le_of_ble_eq_true rfl, Nat.le_of_ble_eq_true rfl⟩) hS (fun q _ h => hFc q h) hFc (fun r9 u9 t H1 locs ht hvm hw hB hz1 hk1 hS => ?_)
  obtain ⟨hw1, hw2⟩ := hw
  have hw2 := hw2.symm
  subst hw1 hw2
  obtain ⟨hP1, hK1, hD1⟩ := hB
  rw [ht] at hP1
  obtain ⟨hP, hD⟩ := jN_any (ws := (wM cI mO memA dskA rgA inA outA u)) hP hD hk1
  clear hPc hDc hKc hFc hz1 hk1 hP1 hK1 hD1 ht hvm
  generalize H1 = H at hP hS ⊢
  refine jn_b (D := (dC, dI)) (cl := vwCl) (ws := (wM cI mO memA dskA rgA inA outA u)) (A := A) (H0 := s.heap) (nL := 4) 20 (if (bI (f_X7_noPlace a1)) = (0 : Int32) then (if (bI (f_X7_noByte a2)) = (0 : Int32) then false else true : Bool) else true : Bool) [(0, .ref mO), (1, .int a1), (2, .int a2)] [.ref mO] (fun H locs ls hP hS hl => ?_) (fun hJ1 => ?_)
  · skip
    refine va_put (D := (dC, dI)) (ci := 7) (v := .int (bI (if (bI (f_X7_noPlace a1)) = (0 : Int32) then (if (bI (f_X7_noByte a2)) = (0 : Int32) then false else true : Bool) else true : Bool))) (ty := .int) (C := RX7) (T := TX7) (N := 30) hx hb hts iX7_writeDisk_X7 tyX7 tyX7_ok nmX7 hown hK hP hD hS 0 rfl rfl 0 (by decide) (hts _ qX7_writeDisk_0) (fun _ h9 => h9) rfl (by decide +kernel) rfl rfl (Nat.le_of_ble_eq_true rfl) dX7_writeDisk_20 (fun H locs hP hD hS => ?_)
    obtain ⟨hP, hD⟩ := pM_thr hP hD
    refine lv_aload_n hx hb dX7_writeDisk_23 rfl (lv_at hl 0 rfl) ?_
    refine va_get (D := (dC, dI)) (ci := 7) (v := .int (gMW_thr (sMW_thr u (bI (if (bI (f_X7_noPlace a1)) = (0 : Int32) then (if (bI (f_X7_noByte a2)) = (0 : Int32) then false else true : Bool) else true : Bool))))) (C := RX7) (T := TX7) (N := 30) hx hb hts iX7_writeDisk_X7 hown hK hP 0 rfl rfl 0 (by decide) (hts _ qX7_writeDisk_0) (fun _ h9 => h9) rfl dX7_writeDisk_24 ?_
    refine lv_if_le (tgt := 32) hx hb dX7_writeDisk_27 (by decide) (fun c2 => ?_) (fun c2 => ?_)
    · skip
      refine lv_aload_n hx hb dX7_writeDisk_32 rfl (lv_at hl 0 rfl) ?_
      refine va_get (D := (dC, dI)) (ci := 7) (v := .ref dskA) (C := RX7) (T := TX7) (N := 30) hx hb hts iX7_writeDisk_X7 hown hK hP 0 rfl rfl 2 (by decide) (hts _ qX7_writeDisk_1) (fun _ h9 => h9) rfl dX7_writeDisk_33 ?_
      refine lv_iload_n hx hb dX7_writeDisk_36 rfl (lv_at hl 1 rfl) ?_
      refine va_iald (f := (gMW_d (sMW_thr u (bI (if (bI (f_X7_noPlace a1)) = (0 : Int32) then (if (bI (f_X7_noByte a2)) = (0 : Int32) then false else true : Bool) else true : Bool))))) hx hb hK hP 2 0 rfl rfl (ix_wr c2) dX7_writeDisk_37 ?_
      refine lv_topi (fun y3 ey3 => ?_)
      refine lv_istore_n (lv' := [(3, .int y3), (0, .ref mO), (1, .int a1), (2, .int a2)]) hx hb dX7_writeDisk_38 rfl hl (by decide) rfl (fun ls hl => ?_)
      refine lv_aload_n hx hb dX7_writeDisk_39 rfl (lv_at hl 1 rfl) ?_
      refine va_get (D := (dC, dI)) (ci := 7) (v := .ref dskA) (C := RX7) (T := TX7) (N := 30) hx hb hts iX7_writeDisk_X7 hown hK hP 0 rfl rfl 2 (by decide) (hts _ qX7_writeDisk_1) (fun _ h9 => h9) rfl dX7_writeDisk_40 ?_
      refine lv_iload_n hx hb dX7_writeDisk_43 rfl (lv_at hl 2 rfl) ?_
      refine lv_iload_n hx hb dX7_writeDisk_44 rfl (lv_at hl 3 rfl) ?_
      refine va_iast (f := (gMW_d (sMW_thr u (bI (if (bI (f_X7_noPlace a1)) = (0 : Int32) then (if (bI (f_X7_noByte a2)) = (0 : Int32) then false else true : Bool) else true : Bool))))) hx hb hK hP hD hS 2 0 rfl rfl (ix_wr c2) dX7_writeDisk_45 (fun H locs hP hD hS => ?_)
      obtain ⟨hP, hD⟩ := aM_dskA hP hD
      refine lv_iload_n hx hb dX7_writeDisk_46 rfl (lv_at hl 0 rfl) ?_
      exact W.iret (v := y3) hx hb hr (fun t ht hW => ⟨⟨y3, (sMW_d (sMW_thr u (bI (if (bI (f_X7_noPlace a1)) = (0 : Int32) then (if (bI (f_X7_noByte a2)) = (0 : Int32) then false else true : Bool) else true : Bool))) (upd (gMW_d (sMW_thr u (bI (if (bI (f_X7_noPlace a1)) = (0 : Int32) then (if (bI (f_X7_noByte a2)) = (0 : Int32) then false else true : Bool) else true : Bool)))) (a1 : Int32).toNatClampNeg a2)), rfl, ⟨(by subst ey3; simp only [f_X7_writeDisk, if_pos c2]), (by subst ey3; simp only [f_X7_writeDisk, if_pos c2])⟩, by rw [ht]; exact hP, va_K.moved hW.alike hK, hD⟩, hS.F ht⟩) hS.2.2 dX7_writeDisk_47
    · skip
      refine lv_iconst (v := 0) hx hb dX7_writeDisk_30 (by decide) ?_
      exact W.iret (v := 0) hx hb hr (fun t ht hW => ⟨⟨0, (sMW_thr u (bI (if (bI (f_X7_noPlace a1)) = (0 : Int32) then (if (bI (f_X7_noByte a2)) = (0 : Int32) then false else true : Bool) else true : Bool))), rfl, ⟨(by simp only [f_X7_writeDisk, if_neg c2]), (by simp only [f_X7_writeDisk, if_neg c2])⟩, by rw [ht]; exact hP, va_K.moved hW.alike hK, hD⟩, hS.F ht⟩) hS.2.2 dX7_writeDisk_31
  · skip
    refine lv_if_ne (tgt := 15) hx hb dX7_writeDisk_5 (by decide) (fun c4 => ?_) (fun c4 => ?_)
    · skip
      refine lv_iconst (v := 1) hx hb dX7_writeDisk_15 (by decide) ?_
      refine lv_goto (tgt := 20) hx hb dX7_writeDisk_16 (by decide) ?_
      exact hJ1 true _ _ _ (by simp only [if_neg c4]) hP hS (lv_sub hl [0, 1, 2] rfl)
    · skip
      refine lv_iload_n hx hb dX7_writeDisk_8 rfl (lv_at hl 2 rfl) ?_
      have hPc := hP.sub (ws' := ([] : va_W)) [] rfl
      have hDc := hD.sub (ws' := ([] : va_W)) [] (by decide) rfl
      have hFc := va_free (wc := ([] : va_W)) hD hS hA [] rfl
      have hKc := hK.sub (tys' := []) [] rfl
      refine va_calli (va_runS (As := [.int a2]) (rest := [.ref mO]) ⟨hx, hb, hml, hown, hts⟩ (k_X7_noByte l dC dI H.size a2) (va_cwS 1 hts gX7_writeDisk_X7_noByte rfl rfl rfl (by decide +kernel) ⟨Nat.le_of_ble_eq_true rfl, Nat.le_of_ble_eq_true rfl⟩) ⟨fun a U g mk q => by obtain ⟨q0, q1, qP, qK, qD⟩ := q; exact ⟨q0, q1, qP, va_K.moved (u := U) (U := U.calling g mk a) (Vm.Alike.refl U.vm) qK, qD⟩, fun U hU hW => ⟨rfl, by rw [hU], by rw [hU]; exact hPc, va_K.moved hW.alike hKc, hDc.weaken (fun _ _ _ _ => trivial)⟩⟩ rfl rfl hl.1 rfl (lv_room (Nat.le_of_ble_eq_true rfl)) dX7_writeDisk_9 ⟨Nat.le_of_ble_eq_true rfl, Nat.le_of_ble_eq_true rfl⟩) hS (fun q _ h => hFc q h) hFc (fun r9 u9 t H1 locs ht hvm hw hB hz1 hk1 hS => ?_)
      obtain ⟨hw1, hw2⟩ := hw
      have hw2 := hw2.symm
      subst hw1 hw2
      obtain ⟨hP1, hK1, hD1⟩ := hB
      rw [ht] at hP1
      obtain ⟨hP, hD⟩ := jN_any (ws := (wM cI mO memA dskA rgA inA outA u)) hP hD hk1
      clear hPc hDc hKc hFc hz1 hk1 hP1 hK1 hD1 ht hvm
      generalize H1 = H at hP hS ⊢
      refine jn_b (D := (dC, dI)) (cl := vwCl) (ws := (wM cI mO memA dskA rgA inA outA u)) (A := A) (H0 := s.heap) (nL := 4) 20 (if (bI (f_X7_noByte a2)) = (0 : Int32) then false else true : Bool) [(0, .ref mO), (1, .int a1), (2, .int a2)] [.ref mO] (fun H locs ls hP hS hl => ?_) (fun hJ5 => ?_)
      · skip
        exact hJ1 (if (bI (f_X7_noByte a2)) = (0 : Int32) then false else true : Bool) _ _ _ (by simp only [if_pos c4]) hP hS (lv_sub hl [0, 1, 2] rfl)
      · skip
        refine lv_if_eq (tgt := 19) hx hb dX7_writeDisk_12 (by decide) (fun c6 => ?_) (fun c6 => ?_)
        · skip
          refine lv_iconst (v := 0) hx hb dX7_writeDisk_19 (by decide) ?_
          exact hJ5 false _ _ _ (by simp only [if_pos c6]) hP hS (lv_sub hl [0, 1, 2] rfl)
        · skip
          refine lv_iconst (v := 1) hx hb dX7_writeDisk_15 (by decide) ?_
          refine lv_goto (tgt := 20) hx hb dX7_writeDisk_16 (by decide) ?_
          exact hJ5 true _ _ _ (by simp only [if_neg c6]) hP hS (lv_sub hl [0, 1, 2] rfl)

def f_X7_readDisk (u : MW) (a1 : Int32) : Int32 × MW := ((if (gMW_thr (sMW_thr u (bI (if (bI (f_X7_noPlace a1)) = (0 : Int32) then false else true : Bool)))) ≤ (0 : Int32) then ((gMW_d (sMW_thr u (bI (if (bI (f_X7_noPlace a1)) = (0 : Int32) then false else true : Bool)))) (a1 : Int32).toNatClampNeg) else 0 : Int32), (sMW_thr u (bI (if (bI (f_X7_noPlace a1)) = (0 : Int32) then false else true : Bool))))
theorem qX7_readDisk_0 : Cond.fieldLink RX7 29 "DiskMachineModel" "thrown" "I" ∈ wsX7_readDisk := by decide +kernel
theorem qX7_readDisk_1 : Cond.fieldLink RX7 13 "DiskMachineModel" "disk" "[I" ∈ wsX7_readDisk := by decide +kernel
theorem iX7_readDisk_X7 : ∀ w ∈ wsX70, w ∈ wsX7_readDisk := by decide +kernel
set_option maxHeartbeats 4000000 in
set_option maxRecDepth 100000 in
theorem k_X7_readDisk (l : Launch) (dC : Nat → ClassId) (dI : Nat → Nat → Nat) (cI : ClassId) (mO memA dskA rgA inA outA : Nat) (sz : Nat) (u : MW) (a1 : Int32) : Met l yX7_readDisk wsX7_readDisk ({ frames := 1, cells := 0, slots := 0, locals := 20 }) (va_Pc [.ref mO, .int a1] (wB dC dI [(cI, .int)] sz (wM cI mO memA dskA rgA inA outA u))) (va_Qi (fun (r : Int32) (u' : MW) => r = (f_X7_readDisk u a1).1 ∧ u' = (f_X7_readDisk u a1).2) (fun u' => wE dC dI [(cI, .int)] (va_A (wM cI mO memA dskA rgA inA outA u) sz) (wM cI mO memA dskA rgA inA outA u')) (va_A (wM cI mO memA dskA rgA inA outA u) sz)) 0 0 (va_A (wM cI mO memA dskA rgA inA outA u) sz) := by
  refine Met.ofW (cc := cX7_readDisk) (maxL := 2) (ret := (some .int)) (by decide) rfl ?_
  intro p e s m args below meth c s₁ B hml hv
  obtain ⟨rfl, hsz, hP, hK, hD0⟩ := hv
  have hx := B.exec
  have hb := B.bytes
  have hr := B.returns
  have hts := atoms_spec (ws := wsX7_readDisk) B.pre
  have hown : s.vm.findClass RX7 = some m.cls := findClass_of_methodNamed B.named
  have hlocks := B.notSynchronized
  subst hsz
  have hD := hD0.self (sz := s.heap.size)
  generalize hAe : va_A (wM cI mO memA dskA rgA inA outA u) s.heap.size = A at hD ⊢
  have hA : ∀ q : Nat, s.heap.size ≤ q → A q := fun q h => by rw [← hAe]; exact Or.inr h
  have hS : va_S A s.heap s.heap [] := va_S.rf
  have hP : va_P (dC, dI) vwCl (wM cI mO memA dskA rgA inA outA u) s.heap := hP
  clear hAe hD0
  have hl := lv_entry ([.ref mO, .int a1]) (n := 2) (Nat.le_of_ble_eq_true rfl)
  rw [lg_entry_eq]
  generalize (lg_sl ([.ref mO, .int a1]) ++ List.replicate (2 - (lg_sl ([.ref mO, .int a1])).length) Slot.unset).toArray = ls at hl ⊢
  have hl : lv_has ls 2 [(0, .ref mO), (1, .int a1)] := hl
  refine jn_H hP hS (fun H locs hP hS => ?_)
  refine lv_aload_n hx hb dX7_readDisk_0 rfl (lv_at hl 0 rfl) ?_
  refine lv_iload_n hx hb dX7_readDisk_1 rfl (lv_at hl 1 rfl) ?_
  have hPc := hP.sub (ws' := ([] : va_W)) [] rfl
  have hDc := hD.sub (ws' := ([] : va_W)) [] (by decide) rfl
  have hFc := va_free (wc := ([] : va_W)) hD hS hA [] rfl
  have hKc := hK.sub (tys' := []) [] rfl
  refine va_calli (va_runS (As := [.int a1]) (rest := [.ref mO]) ⟨hx, hb, hml, hown, hts⟩ (k_X7_noPlace l dC dI H.size a1) (va_cwS 1 hts gX7_readDisk_X7_noPlace rfl rfl rfl (by decide +kernel) ⟨Nat.le_of_ble_eq_true rfl, Nat.le_of_ble_eq_true rfl⟩) ⟨fun a U g mk q => by obtain ⟨q0, q1, qP, qK, qD⟩ := q; exact ⟨q0, q1, qP, va_K.moved (u := U) (U := U.calling g mk a) (Vm.Alike.refl U.vm) qK, qD⟩, fun U hU hW => ⟨rfl, by rw [hU], by rw [hU]; exact hPc, va_K.moved hW.alike hKc, hDc.weaken (fun _ _ _ _ => trivial)⟩⟩ rfl rfl hl.1 rfl (lv_room (Nat.le_of_ble_eq_true rfl)) dX7_readDisk_2 ⟨Nat.le_of_ble_eq_true rfl, Nat.le_of_ble_eq_true rfl⟩) hS (fun q _ h => hFc q h) hFc (fun r9 u9 t H1 locs ht hvm hw hB hz1 hk1 hS => ?_)
  obtain ⟨hw1, hw2⟩ := hw
  have hw2 := hw2.symm
  subst hw1 hw2
  obtain ⟨hP1, hK1, hD1⟩ := hB
  rw [ht] at hP1
  obtain ⟨hP, hD⟩ := jN_any (ws := (wM cI mO memA dskA rgA inA outA u)) hP hD hk1
  clear hPc hDc hKc hFc hz1 hk1 hP1 hK1 hD1 ht hvm
  generalize H1 = H at hP hS ⊢
  refine jn_b (D := (dC, dI)) (cl := vwCl) (ws := (wM cI mO memA dskA rgA inA outA u)) (A := A) (H0 := s.heap) (nL := 2) 13 (if (bI (f_X7_noPlace a1)) = (0 : Int32) then false else true : Bool) [(0, .ref mO), (1, .int a1)] [.ref mO] (fun H locs ls hP hS hl => ?_) (fun hJ1 => ?_)
  · skip
    refine va_put (D := (dC, dI)) (ci := 7) (v := .int (bI (if (bI (f_X7_noPlace a1)) = (0 : Int32) then false else true : Bool))) (ty := .int) (C := RX7) (T := TX7) (N := 30) hx hb hts iX7_readDisk_X7 tyX7 tyX7_ok nmX7 hown hK hP hD hS 0 rfl rfl 0 (by decide) (hts _ qX7_readDisk_0) (fun _ h9 => h9) rfl (by decide +kernel) rfl rfl (Nat.le_of_ble_eq_true rfl) dX7_readDisk_13 (fun H locs hP hD hS => ?_)
    obtain ⟨hP, hD⟩ := pM_thr hP hD
    refine lv_aload_n hx hb dX7_readDisk_16 rfl (lv_at hl 0 rfl) ?_
    refine va_get (D := (dC, dI)) (ci := 7) (v := .int (gMW_thr (sMW_thr u (bI (if (bI (f_X7_noPlace a1)) = (0 : Int32) then false else true : Bool))))) (C := RX7) (T := TX7) (N := 30) hx hb hts iX7_readDisk_X7 hown hK hP 0 rfl rfl 0 (by decide) (hts _ qX7_readDisk_0) (fun _ h9 => h9) rfl dX7_readDisk_17 ?_
    refine jn_i (D := (dC, dI)) (cl := vwCl) (ws := (wM cI mO memA dskA rgA inA outA (sMW_thr u (bI (if (bI (f_X7_noPlace a1)) = (0 : Int32) then false else true : Bool))))) (A := A) (H0 := s.heap) (nL := 2) 33 (if (gMW_thr (sMW_thr u (bI (if (bI (f_X7_noPlace a1)) = (0 : Int32) then false else true : Bool)))) ≤ (0 : Int32) then ((gMW_d (sMW_thr u (bI (if (bI (f_X7_noPlace a1)) = (0 : Int32) then false else true : Bool)))) (a1 : Int32).toNatClampNeg) else 0 : Int32) [(0, .ref mO), (1, .int a1)] [] (fun H locs ls hP hS hl => ?_) (fun hJ2 => ?_)
    · skip
      exact W.iret (v := (if (gMW_thr (sMW_thr u (bI (if (bI (f_X7_noPlace a1)) = (0 : Int32) then false else true : Bool)))) ≤ (0 : Int32) then ((gMW_d (sMW_thr u (bI (if (bI (f_X7_noPlace a1)) = (0 : Int32) then false else true : Bool)))) (a1 : Int32).toNatClampNeg) else 0 : Int32)) hx hb hr (fun t ht hW => ⟨⟨(if (gMW_thr (sMW_thr u (bI (if (bI (f_X7_noPlace a1)) = (0 : Int32) then false else true : Bool)))) ≤ (0 : Int32) then ((gMW_d (sMW_thr u (bI (if (bI (f_X7_noPlace a1)) = (0 : Int32) then false else true : Bool)))) (a1 : Int32).toNatClampNeg) else 0 : Int32), (sMW_thr u (bI (if (bI (f_X7_noPlace a1)) = (0 : Int32) then false else true : Bool))), rfl, ⟨rfl, rfl⟩, by rw [ht]; exact hP, va_K.moved hW.alike hK, hD⟩, hS.F ht⟩) hS.2.2 dX7_readDisk_33
    · skip
      refine lv_if_le (tgt := 27) hx hb dX7_readDisk_20 (by decide) (fun c3 => ?_) (fun c3 => ?_)
      · skip
        refine lv_aload_n hx hb dX7_readDisk_27 rfl (lv_at hl 0 rfl) ?_
        refine va_get (D := (dC, dI)) (ci := 7) (v := .ref dskA) (C := RX7) (T := TX7) (N := 30) hx hb hts iX7_readDisk_X7 hown hK hP 0 rfl rfl 2 (by decide) (hts _ qX7_readDisk_1) (fun _ h9 => h9) rfl dX7_readDisk_28 ?_
        refine lv_iload_n hx hb dX7_readDisk_31 rfl (lv_at hl 1 rfl) ?_
        refine va_iald (f := (gMW_d (sMW_thr u (bI (if (bI (f_X7_noPlace a1)) = (0 : Int32) then false else true : Bool))))) hx hb hK hP 2 0 rfl rfl (ix_wr c3) dX7_readDisk_32 ?_
        exact hJ2 ((gMW_d (sMW_thr u (bI (if (bI (f_X7_noPlace a1)) = (0 : Int32) then false else true : Bool)))) (a1 : Int32).toNatClampNeg) _ _ _ (by simp only [if_pos c3]) hP hS (lv_sub hl [0, 1] rfl)
      · skip
        refine lv_iconst (v := 0) hx hb dX7_readDisk_23 (by decide) ?_
        refine lv_goto (tgt := 33) hx hb dX7_readDisk_24 (by decide) ?_
        exact hJ2 0 _ _ _ (by simp only [if_neg c3]) hP hS (lv_sub hl [0, 1] rfl)
  · skip
    refine lv_if_eq (tgt := 12) hx hb dX7_readDisk_5 (by decide) (fun c4 => ?_) (fun c4 => ?_)
    · skip
      refine lv_iconst (v := 0) hx hb dX7_readDisk_12 (by decide) ?_
      exact hJ1 false _ _ _ (by simp only [if_pos c4]) hP hS (lv_sub hl [0, 1] rfl)
    · skip
      refine lv_iconst (v := 1) hx hb dX7_readDisk_8 (by decide) ?_
      refine lv_goto (tgt := 13) hx hb dX7_readDisk_9 (by decide) ?_
      exact hJ1 true _ _ _ (by simp only [if_neg c4]) hP hS (lv_sub hl [0, 1] rfl)

def f_X7_register (u : MW) (a1 : Int32) : Int32 × MW := 
  if (gMW_thr (sMW_thr u (bI (if a1 < (0 : Int32) then true else (if a1 ≤ (9 : Int32) then false else true : Bool) : Bool)))) ≤ (0 : Int32) then ((if a1 = (6 : Int32) then (f_X7_flags (sMW_thr u (bI (if a1 < (0 : Int32) then true else (if a1 ≤ (9 : Int32) then false else true : Bool) : Bool)))) else (if a1 = (8 : Int32) then (gMW_pc (sMW_thr u (bI (if a1 < (0 : Int32) then true else (if a1 ≤ (9 : Int32) then false else true : Bool) : Bool)))) else (if a1 = (9 : Int32) then (gMW_sp (sMW_thr u (bI (if a1 < (0 : Int32) then true else (if a1 ≤ (9 : Int32) then false else true : Bool) : Bool)))) else ((gMW_r (sMW_thr u (bI (if a1 < (0 : Int32) then true else (if a1 ≤ (9 : Int32) then false else true : Bool) : Bool)))) (a1 : Int32).toNatClampNeg) : Int32) : Int32) : Int32), (sMW_thr u (bI (if a1 < (0 : Int32) then true else (if a1 ≤ (9 : Int32) then false else true : Bool) : Bool))))
  else (0, (sMW_thr u (bI (if a1 < (0 : Int32) then true else (if a1 ≤ (9 : Int32) then false else true : Bool) : Bool))))
theorem qX7_register_0 : Cond.fieldLink RX7 29 "DiskMachineModel" "thrown" "I" ∈ wsX7_register := by decide +kernel
theorem qX7_register_1 : Cond.fieldLink RX7 16 "DiskMachineModel" "\x72" "[I" ∈ wsX7_register := by decide +kernel
theorem qX7_register_2 : Cond.fieldLink RX7 55 "DiskMachineModel" "sp" "I" ∈ wsX7_register := by decide +kernel
theorem qX7_register_3 : Cond.fieldLink RX7 47 "DiskMachineModel" "pc" "I" ∈ wsX7_register := by decide +kernel
theorem iX7_register_X7 : ∀ w ∈ wsX70, w ∈ wsX7_register := by decide +kernel
set_option maxHeartbeats 4000000 in
set_option maxRecDepth 100000 in
theorem k_X7_register (l : Launch) (dC : Nat → ClassId) (dI : Nat → Nat → Nat) (cI : ClassId) (mO memA dskA rgA inA outA : Nat) (sz : Nat) (u : MW) (a1 : Int32) : Met l yX7_register wsX7_register ({ frames := 1, cells := 0, slots := 0, locals := 20 }) (va_Pc [.ref mO, .int a1] (wB dC dI [(cI, .int)] sz (wM cI mO memA dskA rgA inA outA u))) (va_Qi (fun (r : Int32) (u' : MW) => r = (f_X7_register u a1).1 ∧ u' = (f_X7_register u a1).2) (fun u' => wE dC dI [(cI, .int)] (va_A (wM cI mO memA dskA rgA inA outA u) sz) (wM cI mO memA dskA rgA inA outA u')) (va_A (wM cI mO memA dskA rgA inA outA u) sz)) 0 0 (va_A (wM cI mO memA dskA rgA inA outA u) sz) := by
  refine Met.ofW (cc := cX7_register) (maxL := 2) (ret := (some .int)) (by decide) rfl ?_
  intro p e s m args below meth c s₁ B hml hv
  obtain ⟨rfl, hsz, hP, hK, hD0⟩ := hv
  have hx := B.exec
  have hb := B.bytes
  have hr := B.returns
  have hts := atoms_spec (ws := wsX7_register) B.pre
  have hown : s.vm.findClass RX7 = some m.cls := findClass_of_methodNamed B.named
  have hlocks := B.notSynchronized
  subst hsz
  have hD := hD0.self (sz := s.heap.size)
  generalize hAe : va_A (wM cI mO memA dskA rgA inA outA u) s.heap.size = A at hD ⊢
  have hA : ∀ q : Nat, s.heap.size ≤ q → A q := fun q h => by rw [← hAe]; exact Or.inr h
  have hS : va_S A s.heap s.heap [] := va_S.rf
  have hP : va_P (dC, dI) vwCl (wM cI mO memA dskA rgA inA outA u) s.heap := hP
  clear hAe hD0
  have hl := lv_entry ([.ref mO, .int a1]) (n := 2) (Nat.le_of_ble_eq_true rfl)
  rw [lg_entry_eq]
  generalize (lg_sl ([.ref mO, .int a1]) ++ List.replicate (2 - (lg_sl ([.ref mO, .int a1])).length) Slot.unset).toArray = ls at hl ⊢
  have hl : lv_has ls 2 [(0, .ref mO), (1, .int a1)] := hl
  refine jn_H hP hS (fun H locs hP hS => ?_)
  refine lv_aload_n hx hb dX7_register_0 rfl (lv_at hl 0 rfl) ?_
  refine lv_iload_n hx hb dX7_register_1 rfl (lv_at hl 1 rfl) ?_
  refine jn_b (D := (dC, dI)) (cl := vwCl) (ws := (wM cI mO memA dskA rgA inA outA u)) (A := A) (H0 := s.heap) (nL := 2) 16 (if a1 < (0 : Int32) then true else (if a1 ≤ (9 : Int32) then false else true : Bool) : Bool) [(0, .ref mO), (1, .int a1)] [.ref mO] (fun H locs ls hP hS hl => ?_) (fun hJ1 => ?_)
  · skip
    refine va_put (D := (dC, dI)) (ci := 7) (v := .int (bI (if a1 < (0 : Int32) then true else (if a1 ≤ (9 : Int32) then false else true : Bool) : Bool))) (ty := .int) (C := RX7) (T := TX7) (N := 30) hx hb hts iX7_register_X7 tyX7 tyX7_ok nmX7 hown hK hP hD hS 0 rfl rfl 0 (by decide) (hts _ qX7_register_0) (fun _ h9 => h9) rfl (by decide +kernel) rfl rfl (Nat.le_of_ble_eq_true rfl) dX7_register_16 (fun H locs hP hD hS => ?_)
    obtain ⟨hP, hD⟩ := pM_thr hP hD
    refine lv_aload_n hx hb dX7_register_19 rfl (lv_at hl 0 rfl) ?_
    refine va_get (D := (dC, dI)) (ci := 7) (v := .int (gMW_thr (sMW_thr u (bI (if a1 < (0 : Int32) then true else (if a1 ≤ (9 : Int32) then false else true : Bool) : Bool))))) (C := RX7) (T := TX7) (N := 30) hx hb hts iX7_register_X7 hown hK hP 0 rfl rfl 0 (by decide) (hts _ qX7_register_0) (fun _ h9 => h9) rfl dX7_register_20 ?_
    refine lv_if_le (tgt := 28) hx hb dX7_register_23 (by decide) (fun c2 => ?_) (fun c2 => ?_)
    · skip
      refine lv_iload_n hx hb dX7_register_28 rfl (lv_at hl 1 rfl) ?_
      refine lv_bipush (v := 6) hx hb dX7_register_29 (by decide) ?_
      refine jn_i (D := (dC, dI)) (cl := vwCl) (ws := (wM cI mO memA dskA rgA inA outA (sMW_thr u (bI (if a1 < (0 : Int32) then true else (if a1 ≤ (9 : Int32) then false else true : Bool) : Bool))))) (A := A) (H0 := s.heap) (nL := 2) 73 (if a1 = (6 : Int32) then (f_X7_flags (sMW_thr u (bI (if a1 < (0 : Int32) then true else (if a1 ≤ (9 : Int32) then false else true : Bool) : Bool)))) else (if a1 = (8 : Int32) then (gMW_pc (sMW_thr u (bI (if a1 < (0 : Int32) then true else (if a1 ≤ (9 : Int32) then false else true : Bool) : Bool)))) else (if a1 = (9 : Int32) then (gMW_sp (sMW_thr u (bI (if a1 < (0 : Int32) then true else (if a1 ≤ (9 : Int32) then false else true : Bool) : Bool)))) else ((gMW_r (sMW_thr u (bI (if a1 < (0 : Int32) then true else (if a1 ≤ (9 : Int32) then false else true : Bool) : Bool)))) (a1 : Int32).toNatClampNeg) : Int32) : Int32) : Int32) [(0, .ref mO), (1, .int a1)] [] (fun H locs ls hP hS hl => ?_) (fun hJ3 => ?_)
      · skip
        exact W.iret (v := (if a1 = (6 : Int32) then (f_X7_flags (sMW_thr u (bI (if a1 < (0 : Int32) then true else (if a1 ≤ (9 : Int32) then false else true : Bool) : Bool)))) else (if a1 = (8 : Int32) then (gMW_pc (sMW_thr u (bI (if a1 < (0 : Int32) then true else (if a1 ≤ (9 : Int32) then false else true : Bool) : Bool)))) else (if a1 = (9 : Int32) then (gMW_sp (sMW_thr u (bI (if a1 < (0 : Int32) then true else (if a1 ≤ (9 : Int32) then false else true : Bool) : Bool)))) else ((gMW_r (sMW_thr u (bI (if a1 < (0 : Int32) then true else (if a1 ≤ (9 : Int32) then false else true : Bool) : Bool)))) (a1 : Int32).toNatClampNeg) : Int32) : Int32) : Int32)) hx hb hr (fun t ht hW => ⟨⟨(if a1 = (6 : Int32) then (f_X7_flags (sMW_thr u (bI (if a1 < (0 : Int32) then true else (if a1 ≤ (9 : Int32) then false else true : Bool) : Bool)))) else (if a1 = (8 : Int32) then (gMW_pc (sMW_thr u (bI (if a1 < (0 : Int32) then true else (if a1 ≤ (9 : Int32) then false else true : Bool) : Bool)))) else (if a1 = (9 : Int32) then (gMW_sp (sMW_thr u (bI (if a1 < (0 : Int32) then true else (if a1 ≤ (9 : Int32) then false else true : Bool) : Bool)))) else ((gMW_r (sMW_thr u (bI (if a1 < (0 : Int32) then true else (if a1 ≤ (9 : Int32) then false else true : Bool) : Bool)))) (a1 : Int32).toNatClampNeg) : Int32) : Int32) : Int32), (sMW_thr u (bI (if a1 < (0 : Int32) then true else (if a1 ≤ (9 : Int32) then false else true : Bool) : Bool))), rfl, ⟨(by simp only [f_X7_register, if_pos c2]), (by simp only [f_X7_register, if_pos c2])⟩, by rw [ht]; exact hP, va_K.moved hW.alike hK, hD⟩, hS.F ht⟩) hS.2.2 dX7_register_73
      · skip
        refine lv_icmp_ne (tgt := 41) hx hb dX7_register_31 (by decide) (fun c4 => ?_) (fun c4 => ?_)
        · skip
          refine lv_iload_n hx hb dX7_register_41 rfl (lv_at hl 1 rfl) ?_
          refine lv_bipush (v := 8) hx hb dX7_register_42 (by decide) ?_
          refine jn_i (D := (dC, dI)) (cl := vwCl) (ws := (wM cI mO memA dskA rgA inA outA (sMW_thr u (bI (if a1 < (0 : Int32) then true else (if a1 ≤ (9 : Int32) then false else true : Bool) : Bool))))) (A := A) (H0 := s.heap) (nL := 2) 73 (if a1 = (8 : Int32) then (gMW_pc (sMW_thr u (bI (if a1 < (0 : Int32) then true else (if a1 ≤ (9 : Int32) then false else true : Bool) : Bool)))) else (if a1 = (9 : Int32) then (gMW_sp (sMW_thr u (bI (if a1 < (0 : Int32) then true else (if a1 ≤ (9 : Int32) then false else true : Bool) : Bool)))) else ((gMW_r (sMW_thr u (bI (if a1 < (0 : Int32) then true else (if a1 ≤ (9 : Int32) then false else true : Bool) : Bool)))) (a1 : Int32).toNatClampNeg) : Int32) : Int32) [(0, .ref mO), (1, .int a1)] [] (fun H locs ls hP hS hl => ?_) (fun hJ5 => ?_)
          · skip
            exact hJ3 (if a1 = (8 : Int32) then (gMW_pc (sMW_thr u (bI (if a1 < (0 : Int32) then true else (if a1 ≤ (9 : Int32) then false else true : Bool) : Bool)))) else (if a1 = (9 : Int32) then (gMW_sp (sMW_thr u (bI (if a1 < (0 : Int32) then true else (if a1 ≤ (9 : Int32) then false else true : Bool) : Bool)))) else ((gMW_r (sMW_thr u (bI (if a1 < (0 : Int32) then true else (if a1 ≤ (9 : Int32) then false else true : Bool) : Bool)))) (a1 : Int32).toNatClampNeg) : Int32) : Int32) _ _ _ (by simp only [if_neg c4]) hP hS (lv_sub hl [0, 1] rfl)
          · skip
            refine lv_icmp_ne (tgt := 54) hx hb dX7_register_44 (by decide) (fun c6 => ?_) (fun c6 => ?_)
            · skip
              refine lv_iload_n hx hb dX7_register_54 rfl (lv_at hl 1 rfl) ?_
              refine lv_bipush (v := 9) hx hb dX7_register_55 (by decide) ?_
              refine jn_i (D := (dC, dI)) (cl := vwCl) (ws := (wM cI mO memA dskA rgA inA outA (sMW_thr u (bI (if a1 < (0 : Int32) then true else (if a1 ≤ (9 : Int32) then false else true : Bool) : Bool))))) (A := A) (H0 := s.heap) (nL := 2) 73 (if a1 = (9 : Int32) then (gMW_sp (sMW_thr u (bI (if a1 < (0 : Int32) then true else (if a1 ≤ (9 : Int32) then false else true : Bool) : Bool)))) else ((gMW_r (sMW_thr u (bI (if a1 < (0 : Int32) then true else (if a1 ≤ (9 : Int32) then false else true : Bool) : Bool)))) (a1 : Int32).toNatClampNeg) : Int32) [(0, .ref mO), (1, .int a1)] [] (fun H locs ls hP hS hl => ?_) (fun hJ7 => ?_)
              · skip
                exact hJ5 (if a1 = (9 : Int32) then (gMW_sp (sMW_thr u (bI (if a1 < (0 : Int32) then true else (if a1 ≤ (9 : Int32) then false else true : Bool) : Bool)))) else ((gMW_r (sMW_thr u (bI (if a1 < (0 : Int32) then true else (if a1 ≤ (9 : Int32) then false else true : Bool) : Bool)))) (a1 : Int32).toNatClampNeg) : Int32) _ _ _ (by simp only [if_neg c6]) hP hS (lv_sub hl [0, 1] rfl)
              · skip
                refine lv_icmp_ne (tgt := 67) hx hb dX7_register_57 (by decide) (fun c8 => ?_) (fun c8 => ?_)
                · skip
                  refine lv_aload_n hx hb dX7_register_67 rfl (lv_at hl 0 rfl) ?_
                  refine va_get (D := (dC, dI)) (ci := 7) (v := .ref rgA) (C := RX7) (T := TX7) (N := 30) hx hb hts iX7_register_X7 hown hK hP 0 rfl rfl 3 (by decide) (hts _ qX7_register_1) (fun _ h9 => h9) rfl dX7_register_68 ?_
                  refine lv_iload_n hx hb dX7_register_71 rfl (lv_at hl 1 rfl) ?_
                  refine va_iald (f := (gMW_r (sMW_thr u (bI (if a1 < (0 : Int32) then true else (if a1 ≤ (9 : Int32) then false else true : Bool) : Bool))))) hx hb hK hP 3 0 rfl rfl (ix_rg c2 c4 c6 c8) dX7_register_72 ?_
                  exact hJ7 ((gMW_r (sMW_thr u (bI (if a1 < (0 : Int32) then true else (if a1 ≤ (9 : Int32) then false else true : Bool) : Bool)))) (a1 : Int32).toNatClampNeg) _ _ _ (by simp only [if_neg c8]) hP hS (lv_sub hl [0, 1] rfl)
                · skip
                  refine lv_aload_n hx hb dX7_register_60 rfl (lv_at hl 0 rfl) ?_
                  refine va_get (D := (dC, dI)) (ci := 7) (v := .int (gMW_sp (sMW_thr u (bI (if a1 < (0 : Int32) then true else (if a1 ≤ (9 : Int32) then false else true : Bool) : Bool))))) (C := RX7) (T := TX7) (N := 30) hx hb hts iX7_register_X7 hown hK hP 0 rfl rfl 10 (by decide) (hts _ qX7_register_2) (fun _ h9 => h9) rfl dX7_register_61 ?_
                  refine lv_goto (tgt := 73) hx hb dX7_register_64 (by decide) ?_
                  exact hJ7 (gMW_sp (sMW_thr u (bI (if a1 < (0 : Int32) then true else (if a1 ≤ (9 : Int32) then false else true : Bool) : Bool)))) _ _ _ (by simp only [if_pos c8]) hP hS (lv_sub hl [0, 1] rfl)
            · skip
              refine lv_aload_n hx hb dX7_register_47 rfl (lv_at hl 0 rfl) ?_
              refine va_get (D := (dC, dI)) (ci := 7) (v := .int (gMW_pc (sMW_thr u (bI (if a1 < (0 : Int32) then true else (if a1 ≤ (9 : Int32) then false else true : Bool) : Bool))))) (C := RX7) (T := TX7) (N := 30) hx hb hts iX7_register_X7 hown hK hP 0 rfl rfl 9 (by decide) (hts _ qX7_register_3) (fun _ h9 => h9) rfl dX7_register_48 ?_
              refine lv_goto (tgt := 73) hx hb dX7_register_51 (by decide) ?_
              exact hJ5 (gMW_pc (sMW_thr u (bI (if a1 < (0 : Int32) then true else (if a1 ≤ (9 : Int32) then false else true : Bool) : Bool)))) _ _ _ (by simp only [if_pos c6]) hP hS (lv_sub hl [0, 1] rfl)
        · skip
          refine lv_aload_n hx hb dX7_register_34 rfl (lv_at hl 0 rfl) ?_
          obtain ⟨hPc, hDc, hFc⟩ := xM_M hP hD hS hA
          have hKc := hK.sub (tys' := [(cI, .int)]) [0] rfl
          refine va_calli (va_runV (As := []) (rest := []) ⟨hx, hb, hml, hown, hts⟩ (k_X7_flags l dC dI cI mO memA dskA rgA inA outA H.size (sMW_thr u (bI (if a1 < (0 : Int32) then true else (if a1 ≤ (9 : Int32) then false else true : Bool) : Bool)))) (cwV 0 hts gX7_register_X7_flags rfl rfl rfl (by decide +kernel) ⟨Nat.le_of_ble_eq_true rfl, Nat.le_of_ble_eq_true rfl⟩) ⟨fun a U g mk q => by obtain ⟨q0, q1, qP, qK, qD⟩ := q; exact ⟨q0, q1, qP, va_K.moved (u := U) (U := U.calling g mk a) (Vm.Alike.refl U.vm) qK, qD⟩, va_recv hKc hPc (ci := 7) (q0 := 0) rfl rfl, fun U hU hW => ⟨rfl, by rw [hU], by rw [hU]; exact hPc, va_K.moved hW.alike hKc, hDc.weaken (fun _ _ _ _ => trivial)⟩⟩ rfl rfl hl.1 rfl (lv_room (Nat.le_of_ble_eq_true rfl)) dX7_register_35 ⟨Nat.le_of_ble_eq_true rfl, Nat.le_of_ble_eq_true rfl⟩) hS (fun q _ h => hFc q h) hFc (fun r9 u9 t H1 locs ht hvm hw hB hz1 hk1 hS => ?_)
          obtain ⟨hw1, hw2⟩ := hw
          have hw2 := hw2.symm
          subst hw1 hw2
          obtain ⟨hP1, hK1, hD1⟩ := hB
          rw [ht] at hP1
          obtain ⟨hP, hD⟩ := jM_M0 hP hD hk1 hFc hP1 hD1
          clear hPc hDc hKc hFc hz1 hk1 hP1 hK1 hD1 ht hvm
          generalize H1 = H at hP hS ⊢
          refine lv_goto (tgt := 73) hx hb dX7_register_38 (by decide) ?_
          exact hJ3 (f_X7_flags (sMW_thr u (bI (if a1 < (0 : Int32) then true else (if a1 ≤ (9 : Int32) then false else true : Bool) : Bool)))) _ _ _ (by simp only [if_pos c4]) hP hS (lv_sub hl [0, 1] rfl)
    · skip
      refine lv_iconst (v := 0) hx hb dX7_register_26 (by decide) ?_
      exact W.iret (v := 0) hx hb hr (fun t ht hW => ⟨⟨0, (sMW_thr u (bI (if a1 < (0 : Int32) then true else (if a1 ≤ (9 : Int32) then false else true : Bool) : Bool))), rfl, ⟨(by simp only [f_X7_register, if_neg c2]), (by simp only [f_X7_register, if_neg c2])⟩, by rw [ht]; exact hP, va_K.moved hW.alike hK, hD⟩, hS.F ht⟩) hS.2.2 dX7_register_27
  · skip
    refine lv_if_lt (tgt := 11) hx hb dX7_register_2 (by decide) (fun c9 => ?_) (fun c9 => ?_)
    · skip
      refine lv_iconst (v := 1) hx hb dX7_register_11 (by decide) ?_
      refine lv_goto (tgt := 16) hx hb dX7_register_12 (by decide) ?_
      exact hJ1 true _ _ _ (by simp only [if_pos c9]) hP hS (lv_sub hl [0, 1] rfl)
    · skip
      refine lv_iload_n hx hb dX7_register_5 rfl (lv_at hl 1 rfl) ?_
      refine lv_bipush (v := 9) hx hb dX7_register_6 (by decide) ?_
      refine jn_b (D := (dC, dI)) (cl := vwCl) (ws := (wM cI mO memA dskA rgA inA outA u)) (A := A) (H0 := s.heap) (nL := 2) 16 (if a1 ≤ (9 : Int32) then false else true : Bool) [(0, .ref mO), (1, .int a1)] [.ref mO] (fun H locs ls hP hS hl => ?_) (fun hJ10 => ?_)
      · skip
        exact hJ1 (if a1 ≤ (9 : Int32) then false else true : Bool) _ _ _ (by simp only [if_neg c9]) hP hS (lv_sub hl [0, 1] rfl)
      · skip
        refine lv_icmp_le (tgt := 15) hx hb dX7_register_8 (by decide) (fun c11 => ?_) (fun c11 => ?_)
        · skip
          refine lv_iconst (v := 0) hx hb dX7_register_15 (by decide) ?_
          exact hJ10 false _ _ _ (by simp only [if_pos c11]) hP hS (lv_sub hl [0, 1] rfl)
        · skip
          refine lv_iconst (v := 1) hx hb dX7_register_11 (by decide) ?_
          refine lv_goto (tgt := 16) hx hb dX7_register_12 (by decide) ?_
          exact hJ10 true _ _ _ (by simp only [if_neg c11]) hP hS (lv_sub hl [0, 1] rfl)

def f_X7_put (u : MW) (a1 : Int32) (a2 : Int32) : MW := 
  if (gMW_thr (sMW_thr u (bI (if a1 < (0 : Int32) then true else (if a1 ≤ (9 : Int32) then false else true : Bool) : Bool)))) ≤ (0 : Int32) then 
    if a1 = (6 : Int32) then (f_X7_setFlags (sMW_thr u (bI (if a1 < (0 : Int32) then true else (if a1 ≤ (9 : Int32) then false else true : Bool) : Bool))) a2)
    else 
      if a1 = (8 : Int32) then (sMW_pc (sMW_thr u (bI (if a1 < (0 : Int32) then true else (if a1 ≤ (9 : Int32) then false else true : Bool) : Bool))) (a2 &&& (65535 : Int32)))
      else 
        if a1 = (9 : Int32) then (sMW_sp (sMW_thr u (bI (if a1 < (0 : Int32) then true else (if a1 ≤ (9 : Int32) then false else true : Bool) : Bool))) (a2 &&& (65535 : Int32)))
        else (sMW_r (sMW_thr u (bI (if a1 < (0 : Int32) then true else (if a1 ≤ (9 : Int32) then false else true : Bool) : Bool))) (upd (gMW_r (sMW_thr u (bI (if a1 < (0 : Int32) then true else (if a1 ≤ (9 : Int32) then false else true : Bool) : Bool)))) (a1 : Int32).toNatClampNeg (a2 &&& (255 : Int32))))
  else (sMW_thr u (bI (if a1 < (0 : Int32) then true else (if a1 ≤ (9 : Int32) then false else true : Bool) : Bool)))
theorem qX7_put_0 : Cond.fieldLink RX7 29 "DiskMachineModel" "thrown" "I" ∈ wsX7_put := by decide +kernel
theorem qX7_put_1 : Cond.fieldLink RX7 16 "DiskMachineModel" "\x72" "[I" ∈ wsX7_put := by decide +kernel
theorem qX7_put_2 : Cond.constant RX7 50 (65535) ∈ wsX7_put := by decide +kernel
theorem qX7_put_3 : Cond.fieldLink RX7 55 "DiskMachineModel" "sp" "I" ∈ wsX7_put := by decide +kernel
theorem qX7_put_4 : Cond.fieldLink RX7 47 "DiskMachineModel" "pc" "I" ∈ wsX7_put := by decide +kernel
theorem iX7_put_X7 : ∀ w ∈ wsX70, w ∈ wsX7_put := by decide +kernel
set_option maxHeartbeats 4000000 in
set_option maxRecDepth 100000 in
theorem k_X7_put (l : Launch) (dC : Nat → ClassId) (dI : Nat → Nat → Nat) (cI : ClassId) (mO memA dskA rgA inA outA : Nat) (sz : Nat) (u : MW) (a1 : Int32) (a2 : Int32) : Met l yX7_put wsX7_put ({ frames := 1, cells := 0, slots := 0, locals := 21 }) (va_Pc [.ref mO, .int a1, .int a2] (wB dC dI [(cI, .int)] sz (wM cI mO memA dskA rgA inA outA u))) (va_Qv (fun u' : MW => u' = (f_X7_put u a1 a2)) (fun u' => wE dC dI [(cI, .int)] (va_A (wM cI mO memA dskA rgA inA outA u) sz) (wM cI mO memA dskA rgA inA outA u')) (va_A (wM cI mO memA dskA rgA inA outA u) sz)) 0 0 (va_A (wM cI mO memA dskA rgA inA outA u) sz) := by
  refine Met.ofW (cc := cX7_put) (maxL := 3) (ret := none) (by decide) rfl ?_
  intro p e s m args below meth c s₁ B hml hv
  obtain ⟨rfl, hsz, hP, hK, hD0⟩ := hv
  have hx := B.exec
  have hb := B.bytes
  have hr := B.returns
  have hts := atoms_spec (ws := wsX7_put) B.pre
  have hown : s.vm.findClass RX7 = some m.cls := findClass_of_methodNamed B.named
  have hlocks := B.notSynchronized
  subst hsz
  have hD := hD0.self (sz := s.heap.size)
  generalize hAe : va_A (wM cI mO memA dskA rgA inA outA u) s.heap.size = A at hD ⊢
  have hA : ∀ q : Nat, s.heap.size ≤ q → A q := fun q h => by rw [← hAe]; exact Or.inr h
  have hS : va_S A s.heap s.heap [] := va_S.rf
  have hP : va_P (dC, dI) vwCl (wM cI mO memA dskA rgA inA outA u) s.heap := hP
  clear hAe hD0
  have hl := lv_entry ([.ref mO, .int a1, .int a2]) (n := 3) (Nat.le_of_ble_eq_true rfl)
  rw [lg_entry_eq]
  generalize (lg_sl ([.ref mO, .int a1, .int a2]) ++ List.replicate (3 - (lg_sl ([.ref mO, .int a1, .int a2])).length) Slot.unset).toArray = ls at hl ⊢
  have hl : lv_has ls 3 [(0, .ref mO), (1, .int a1), (2, .int a2)] := hl
  refine jn_H hP hS (fun H locs hP hS => ?_)
  refine lv_aload_n hx hb dX7_put_0 rfl (lv_at hl 0 rfl) ?_
  refine lv_iload_n hx hb dX7_put_1 rfl (lv_at hl 1 rfl) ?_
  refine jn_b (D := (dC, dI)) (cl := vwCl) (ws := (wM cI mO memA dskA rgA inA outA u)) (A := A) (H0 := s.heap) (nL := 3) 16 (if a1 < (0 : Int32) then true else (if a1 ≤ (9 : Int32) then false else true : Bool) : Bool) [(0, .ref mO), (1, .int a1), (2, .int a2)] [.ref mO] (fun H locs ls hP hS hl => ?_) (fun hJ1 => ?_)
  · skip
    refine va_put (D := (dC, dI)) (ci := 7) (v := .int (bI (if a1 < (0 : Int32) then true else (if a1 ≤ (9 : Int32) then false else true : Bool) : Bool))) (ty := .int) (C := RX7) (T := TX7) (N := 30) hx hb hts iX7_put_X7 tyX7 tyX7_ok nmX7 hown hK hP hD hS 0 rfl rfl 0 (by decide) (hts _ qX7_put_0) (fun _ h9 => h9) rfl (by decide +kernel) rfl rfl (Nat.le_of_ble_eq_true rfl) dX7_put_16 (fun H locs hP hD hS => ?_)
    obtain ⟨hP, hD⟩ := pM_thr hP hD
    refine lv_aload_n hx hb dX7_put_19 rfl (lv_at hl 0 rfl) ?_
    refine va_get (D := (dC, dI)) (ci := 7) (v := .int (gMW_thr (sMW_thr u (bI (if a1 < (0 : Int32) then true else (if a1 ≤ (9 : Int32) then false else true : Bool) : Bool))))) (C := RX7) (T := TX7) (N := 30) hx hb hts iX7_put_X7 hown hK hP 0 rfl rfl 0 (by decide) (hts _ qX7_put_0) (fun _ h9 => h9) rfl dX7_put_20 ?_
    refine lv_if_le (tgt := 27) hx hb dX7_put_23 (by decide) (fun c2 => ?_) (fun c2 => ?_)
    · skip
      refine lv_iload_n hx hb dX7_put_27 rfl (lv_at hl 1 rfl) ?_
      refine lv_bipush (v := 6) hx hb dX7_put_28 (by decide) ?_
      refine lv_icmp_ne (tgt := 41) hx hb dX7_put_30 (by decide) (fun c3 => ?_) (fun c3 => ?_)
      · skip
        refine lv_iload_n hx hb dX7_put_41 rfl (lv_at hl 1 rfl) ?_
        refine lv_bipush (v := 8) hx hb dX7_put_42 (by decide) ?_
        refine lv_icmp_ne (tgt := 58) hx hb dX7_put_44 (by decide) (fun c4 => ?_) (fun c4 => ?_)
        · skip
          refine lv_iload_n hx hb dX7_put_58 rfl (lv_at hl 1 rfl) ?_
          refine lv_bipush (v := 9) hx hb dX7_put_59 (by decide) ?_
          refine lv_icmp_ne (tgt := 75) hx hb dX7_put_61 (by decide) (fun c5 => ?_) (fun c5 => ?_)
          · skip
            refine lv_aload_n hx hb dX7_put_75 rfl (lv_at hl 0 rfl) ?_
            refine va_get (D := (dC, dI)) (ci := 7) (v := .ref rgA) (C := RX7) (T := TX7) (N := 30) hx hb hts iX7_put_X7 hown hK hP 0 rfl rfl 3 (by decide) (hts _ qX7_put_1) (fun _ h9 => h9) rfl dX7_put_76 ?_
            refine lv_iload_n hx hb dX7_put_79 rfl (lv_at hl 1 rfl) ?_
            refine lv_iload_n hx hb dX7_put_80 rfl (lv_at hl 2 rfl) ?_
            refine lv_sipush (v := 255) hx hb dX7_put_81 (by decide) ?_
            refine lv_iand hx hb dX7_put_84 ?_
            refine va_iast (f := (gMW_r (sMW_thr u (bI (if a1 < (0 : Int32) then true else (if a1 ≤ (9 : Int32) then false else true : Bool) : Bool))))) hx hb hK hP hD hS 3 0 rfl rfl (ix_rg c2 c3 c4 c5) dX7_put_85 (fun H locs hP hD hS => ?_)
            obtain ⟨hP, hD⟩ := aM_rgA hP hD
            exact W.vret hx hb hr (fun t ht hW => ⟨⟨(sMW_r (sMW_thr u (bI (if a1 < (0 : Int32) then true else (if a1 ≤ (9 : Int32) then false else true : Bool) : Bool))) (upd (gMW_r (sMW_thr u (bI (if a1 < (0 : Int32) then true else (if a1 ≤ (9 : Int32) then false else true : Bool) : Bool)))) (a1 : Int32).toNatClampNeg (a2 &&& (255 : Int32)))), rfl, (by simp only [f_X7_put, if_pos c2, if_neg c3, if_neg c4, if_neg c5]), by rw [ht]; exact hP, va_K.moved hW.alike hK, hD⟩, hS.F ht⟩) hS.2.2 dX7_put_86
          · skip
            refine lv_aload_n hx hb dX7_put_64 rfl (lv_at hl 0 rfl) ?_
            refine lv_iload_n hx hb dX7_put_65 rfl (lv_at hl 2 rfl) ?_
            refine lv_ldc (v := 65535) hx hb hown (hts _ qX7_put_2) dX7_put_66 ?_
            refine lv_iand hx hb dX7_put_68 ?_
            refine va_put (D := (dC, dI)) (ci := 7) (v := .int (a2 &&& (65535 : Int32))) (ty := .int) (C := RX7) (T := TX7) (N := 30) hx hb hts iX7_put_X7 tyX7 tyX7_ok nmX7 hown hK hP hD hS 0 rfl rfl 10 (by decide) (hts _ qX7_put_3) (fun _ h9 => h9) rfl (by decide +kernel) rfl rfl (Nat.le_of_ble_eq_true rfl) dX7_put_69 (fun H locs hP hD hS => ?_)
            obtain ⟨hP, hD⟩ := pM_sp hP hD
            refine lv_goto (tgt := 86) hx hb dX7_put_72 (by decide) ?_
            exact W.vret hx hb hr (fun t ht hW => ⟨⟨(sMW_sp (sMW_thr u (bI (if a1 < (0 : Int32) then true else (if a1 ≤ (9 : Int32) then false else true : Bool) : Bool))) (a2 &&& (65535 : Int32))), rfl, (by simp only [f_X7_put, if_pos c2, if_neg c3, if_neg c4, if_pos c5]), by rw [ht]; exact hP, va_K.moved hW.alike hK, hD⟩, hS.F ht⟩) hS.2.2 dX7_put_86
        · skip
          refine lv_aload_n hx hb dX7_put_47 rfl (lv_at hl 0 rfl) ?_
          refine lv_iload_n hx hb dX7_put_48 rfl (lv_at hl 2 rfl) ?_
          refine lv_ldc (v := 65535) hx hb hown (hts _ qX7_put_2) dX7_put_49 ?_
          refine lv_iand hx hb dX7_put_51 ?_
          refine va_put (D := (dC, dI)) (ci := 7) (v := .int (a2 &&& (65535 : Int32))) (ty := .int) (C := RX7) (T := TX7) (N := 30) hx hb hts iX7_put_X7 tyX7 tyX7_ok nmX7 hown hK hP hD hS 0 rfl rfl 9 (by decide) (hts _ qX7_put_4) (fun _ h9 => h9) rfl (by decide +kernel) rfl rfl (Nat.le_of_ble_eq_true rfl) dX7_put_52 (fun H locs hP hD hS => ?_)
          obtain ⟨hP, hD⟩ := pM_pc hP hD
          refine lv_goto (tgt := 86) hx hb dX7_put_55 (by decide) ?_
          exact W.vret hx hb hr (fun t ht hW => ⟨⟨(sMW_pc (sMW_thr u (bI (if a1 < (0 : Int32) then true else (if a1 ≤ (9 : Int32) then false else true : Bool) : Bool))) (a2 &&& (65535 : Int32))), rfl, (by simp only [f_X7_put, if_pos c2, if_neg c3, if_pos c4]), by rw [ht]; exact hP, va_K.moved hW.alike hK, hD⟩, hS.F ht⟩) hS.2.2 dX7_put_86
      · skip
        refine lv_aload_n hx hb dX7_put_33 rfl (lv_at hl 0 rfl) ?_
        refine lv_iload_n hx hb dX7_put_34 rfl (lv_at hl 2 rfl) ?_
        obtain ⟨hPc, hDc, hFc⟩ := xM_M hP hD hS hA
        have hKc := hK.sub (tys' := [(cI, .int)]) [0] rfl
        refine va_callv (va_runV (As := [.int a2]) (rest := []) ⟨hx, hb, hml, hown, hts⟩ (k_X7_setFlags l dC dI cI mO memA dskA rgA inA outA H.size (sMW_thr u (bI (if a1 < (0 : Int32) then true else (if a1 ≤ (9 : Int32) then false else true : Bool) : Bool))) a2) (cwV 1 hts gX7_put_X7_setFlags rfl rfl rfl (by decide +kernel) ⟨Nat.le_of_ble_eq_true rfl, Nat.le_of_ble_eq_true rfl⟩) ⟨fun a U g mk q => by obtain ⟨q0, q1, qP, qK, qD⟩ := q; exact ⟨q0, q1, qP, va_K.moved (u := U) (U := U.calling g mk a) (Vm.Alike.refl U.vm) qK, qD⟩, va_recv hKc hPc (ci := 7) (q0 := 0) rfl rfl, fun U hU hW => ⟨rfl, by rw [hU], by rw [hU]; exact hPc, va_K.moved hW.alike hKc, hDc.weaken (fun _ _ _ _ => trivial)⟩⟩ rfl rfl hl.1 rfl (lv_room (Nat.le_of_ble_eq_true rfl)) dX7_put_35 ⟨Nat.le_of_ble_eq_true rfl, Nat.le_of_ble_eq_true rfl⟩) hS (fun q _ h => hFc q h) hFc (fun u9 t H1 locs ht hvm hw hB hz1 hk1 hS => ?_)
        subst hw
        obtain ⟨hP1, hK1, hD1⟩ := hB
        rw [ht] at hP1
        obtain ⟨hP, hD⟩ := jM_M hP hD hk1 hFc hP1 hD1
        clear hPc hDc hKc hFc hz1 hk1 hP1 hK1 hD1 ht hvm
        generalize H1 = H at hP hS ⊢
        refine lv_goto (tgt := 86) hx hb dX7_put_38 (by decide) ?_
        exact W.vret hx hb hr (fun t ht hW => ⟨⟨(f_X7_setFlags (sMW_thr u (bI (if a1 < (0 : Int32) then true else (if a1 ≤ (9 : Int32) then false else true : Bool) : Bool))) a2), rfl, (by simp only [f_X7_put, if_pos c2, if_pos c3]), by rw [ht]; exact hP, va_K.moved hW.alike hK, hD⟩, hS.F ht⟩) hS.2.2 dX7_put_86
    · skip
      exact W.vret hx hb hr (fun t ht hW => ⟨⟨(sMW_thr u (bI (if a1 < (0 : Int32) then true else (if a1 ≤ (9 : Int32) then false else true : Bool) : Bool))), rfl, (by simp only [f_X7_put, if_neg c2]), by rw [ht]; exact hP, va_K.moved hW.alike hK, hD⟩, hS.F ht⟩) hS.2.2 dX7_put_26
  · skip
    refine lv_if_lt (tgt := 11) hx hb dX7_put_2 (by decide) (fun c6 => ?_) (fun c6 => ?_)
    · skip
      refine lv_iconst (v := 1) hx hb dX7_put_11 (by decide) ?_
      refine lv_goto (tgt := 16) hx hb dX7_put_12 (by decide) ?_
      exact hJ1 true _ _ _ (by simp only [if_pos c6]) hP hS (lv_sub hl [0, 1, 2] rfl)
    · skip
      refine lv_iload_n hx hb dX7_put_5 rfl (lv_at hl 1 rfl) ?_
      refine lv_bipush (v := 9) hx hb dX7_put_6 (by decide) ?_
      refine jn_b (D := (dC, dI)) (cl := vwCl) (ws := (wM cI mO memA dskA rgA inA outA u)) (A := A) (H0 := s.heap) (nL := 3) 16 (if a1 ≤ (9 : Int32) then false else true : Bool) [(0, .ref mO), (1, .int a1), (2, .int a2)] [.ref mO] (fun H locs ls hP hS hl => ?_) (fun hJ7 => ?_)
      · skip
        exact hJ1 (if a1 ≤ (9 : Int32) then false else true : Bool) _ _ _ (by simp only [if_neg c6]) hP hS (lv_sub hl [0, 1, 2] rfl)
      · skip
        refine lv_icmp_le (tgt := 15) hx hb dX7_put_8 (by decide) (fun c8 => ?_) (fun c8 => ?_)
        · skip
          refine lv_iconst (v := 0) hx hb dX7_put_15 (by decide) ?_
          exact hJ7 false _ _ _ (by simp only [if_pos c8]) hP hS (lv_sub hl [0, 1, 2] rfl)
        · skip
          refine lv_iconst (v := 1) hx hb dX7_put_11 (by decide) ?_
          refine lv_goto (tgt := 16) hx hb dX7_put_12 (by decide) ?_
          exact hJ7 true _ _ _ (by simp only [if_neg c8]) hP hS (lv_sub hl [0, 1, 2] rfl)

def f_X7_type (u : MW) (a1 : Int32) : Int32 × MW := 
  if (gMW_thr (sMW_thr u (bI (if (bI (f_X7_noByte a1)) = (0 : Int32) then false else true : Bool)))) ≤ (0 : Int32) then 
    if (gMW_ins (sMW_thr u (bI (if (bI (f_X7_noByte a1)) = (0 : Int32) then false else true : Bool)))) = (64 : Int32) then ((-1), (sMW_thr u (bI (if (bI (f_X7_noByte a1)) = (0 : Int32) then false else true : Bool))))
    else ((gMW_ins (sMW_ins (sMW_inp (sMW_thr u (bI (if (bI (f_X7_noByte a1)) = (0 : Int32) then false else true : Bool))) (upd (gMW_inp (sMW_thr u (bI (if (bI (f_X7_noByte a1)) = (0 : Int32) then false else true : Bool)))) ((gMW_ins (sMW_thr u (bI (if (bI (f_X7_noByte a1)) = (0 : Int32) then false else true : Bool)))) : Int32).toNatClampNeg a1)) ((gMW_ins (sMW_inp (sMW_thr u (bI (if (bI (f_X7_noByte a1)) = (0 : Int32) then false else true : Bool))) (upd (gMW_inp (sMW_thr u (bI (if (bI (f_X7_noByte a1)) = (0 : Int32) then false else true : Bool)))) ((gMW_ins (sMW_thr u (bI (if (bI (f_X7_noByte a1)) = (0 : Int32) then false else true : Bool)))) : Int32).toNatClampNeg a1))) + (1 : Int32)))), (sMW_ins (sMW_inp (sMW_thr u (bI (if (bI (f_X7_noByte a1)) = (0 : Int32) then false else true : Bool))) (upd (gMW_inp (sMW_thr u (bI (if (bI (f_X7_noByte a1)) = (0 : Int32) then false else true : Bool)))) ((gMW_ins (sMW_thr u (bI (if (bI (f_X7_noByte a1)) = (0 : Int32) then false else true : Bool)))) : Int32).toNatClampNeg a1)) ((gMW_ins (sMW_inp (sMW_thr u (bI (if (bI (f_X7_noByte a1)) = (0 : Int32) then false else true : Bool))) (upd (gMW_inp (sMW_thr u (bI (if (bI (f_X7_noByte a1)) = (0 : Int32) then false else true : Bool)))) ((gMW_ins (sMW_thr u (bI (if (bI (f_X7_noByte a1)) = (0 : Int32) then false else true : Bool)))) : Int32).toNatClampNeg a1))) + (1 : Int32))))
  else (0, (sMW_thr u (bI (if (bI (f_X7_noByte a1)) = (0 : Int32) then false else true : Bool))))
theorem qX7_type_0 : Cond.fieldLink RX7 29 "DiskMachineModel" "thrown" "I" ∈ wsX7_type := by decide +kernel
theorem qX7_type_1 : Cond.fieldLink RX7 103 "DiskMachineModel" "inputs" "I" ∈ wsX7_type := by decide +kernel
theorem qX7_type_2 : Cond.fieldLink RX7 23 "DiskMachineModel" "input" "[I" ∈ wsX7_type := by decide +kernel
theorem iX7_type_X7 : ∀ w ∈ wsX70, w ∈ wsX7_type := by decide +kernel
set_option maxHeartbeats 4000000 in
set_option maxRecDepth 100000 in
theorem k_X7_type (l : Launch) (dC : Nat → ClassId) (dI : Nat → Nat → Nat) (cI : ClassId) (mO memA dskA rgA inA outA : Nat) (sz : Nat) (u : MW) (a1 : Int32) (hI : ∃ q : Nat, q ≤ 64 ∧ gMW_ins u = nI q) : Met l yX7_type wsX7_type ({ frames := 1, cells := 0, slots := 0, locals := 20 }) (va_Pc [.ref mO, .int a1] (wB dC dI [(cI, .int)] sz (wM cI mO memA dskA rgA inA outA u))) (va_Qi (fun (r : Int32) (u' : MW) => r = (f_X7_type u a1).1 ∧ u' = (f_X7_type u a1).2) (fun u' => wE dC dI [(cI, .int)] (va_A (wM cI mO memA dskA rgA inA outA u) sz) (wM cI mO memA dskA rgA inA outA u')) (va_A (wM cI mO memA dskA rgA inA outA u) sz)) 0 0 (va_A (wM cI mO memA dskA rgA inA outA u) sz) := by
  refine Met.ofW (cc := cX7_type) (maxL := 2) (ret := (some .int)) (by decide) rfl ?_
  intro p e s m args below meth c s₁ B hml hv
  obtain ⟨rfl, hsz, hP, hK, hD0⟩ := hv
  have hx := B.exec
  have hb := B.bytes
  have hr := B.returns
  have hts := atoms_spec (ws := wsX7_type) B.pre
  have hown : s.vm.findClass RX7 = some m.cls := findClass_of_methodNamed B.named
  have hlocks := B.notSynchronized
  subst hsz
  have hD := hD0.self (sz := s.heap.size)
  generalize hAe : va_A (wM cI mO memA dskA rgA inA outA u) s.heap.size = A at hD ⊢
  have hA : ∀ q : Nat, s.heap.size ≤ q → A q := fun q h => by rw [← hAe]; exact Or.inr h
  have hS : va_S A s.heap s.heap [] := va_S.rf
  have hP : va_P (dC, dI) vwCl (wM cI mO memA dskA rgA inA outA u) s.heap := hP
  clear hAe hD0
  have hl := lv_entry ([.ref mO, .int a1]) (n := 2) (Nat.le_of_ble_eq_true rfl)
  rw [lg_entry_eq]
  generalize (lg_sl ([.ref mO, .int a1]) ++ List.replicate (2 - (lg_sl ([.ref mO, .int a1])).length) Slot.unset).toArray = ls at hl ⊢
  have hl : lv_has ls 2 [(0, .ref mO), (1, .int a1)] := hl
  refine jn_H hP hS (fun H locs hP hS => ?_)
  refine lv_aload_n hx hb dX7_type_0 rfl (lv_at hl 0 rfl) ?_
  refine lv_iload_n hx hb dX7_type_1 rfl (lv_at hl 1 rfl) ?_
  have hPc := hP.sub (ws' := ([] : va_W)) [] rfl
  have hDc := hD.sub (ws' := ([] : va_W)) [] (by decide) rfl
  have hFc := va_free (wc := ([] : va_W)) hD hS hA [] rfl
  have hKc := hK.sub (tys' := []) [] rfl
  refine va_calli (va_runS (As := [.int a1]) (rest := [.ref mO]) ⟨hx, hb, hml, hown, hts⟩ (k_X7_noByte l dC dI H.size a1) (va_cwS 1 hts gX7_type_X7_noByte rfl rfl rfl (by decide +kernel) ⟨Nat.le_of_ble_eq_true rfl, Nat.le_of_ble_eq_true rfl⟩) ⟨fun a U g mk q => by obtain ⟨q0, q1, qP, qK, qD⟩ := q; exact ⟨q0, q1, qP, va_K.moved (u := U) (U := U.calling g mk a) (Vm.Alike.refl U.vm) qK, qD⟩, fun U hU hW => ⟨rfl, by rw [hU], by rw [hU]; exact hPc, va_K.moved hW.alike hKc, hDc.weaken (fun _ _ _ _ => trivial)⟩⟩ rfl rfl hl.1 rfl (lv_room (Nat.le_of_ble_eq_true rfl)) dX7_type_2 ⟨Nat.le_of_ble_eq_true rfl, Nat.le_of_ble_eq_true rfl⟩) hS (fun q _ h => hFc q h) hFc (fun r9 u9 t H1 locs ht hvm hw hB hz1 hk1 hS => ?_)
  obtain ⟨hw1, hw2⟩ := hw
  have hw2 := hw2.symm
  subst hw1 hw2
  obtain ⟨hP1, hK1, hD1⟩ := hB
  rw [ht] at hP1
  obtain ⟨hP, hD⟩ := jN_any (ws := (wM cI mO memA dskA rgA inA outA u)) hP hD hk1
  clear hPc hDc hKc hFc hz1 hk1 hP1 hK1 hD1 ht hvm
  generalize H1 = H at hP hS ⊢
  refine jn_b (D := (dC, dI)) (cl := vwCl) (ws := (wM cI mO memA dskA rgA inA outA u)) (A := A) (H0 := s.heap) (nL := 2) 13 (if (bI (f_X7_noByte a1)) = (0 : Int32) then false else true : Bool) [(0, .ref mO), (1, .int a1)] [.ref mO] (fun H locs ls hP hS hl => ?_) (fun hJ1 => ?_)
  · skip
    refine va_put (D := (dC, dI)) (ci := 7) (v := .int (bI (if (bI (f_X7_noByte a1)) = (0 : Int32) then false else true : Bool))) (ty := .int) (C := RX7) (T := TX7) (N := 30) hx hb hts iX7_type_X7 tyX7 tyX7_ok nmX7 hown hK hP hD hS 0 rfl rfl 0 (by decide) (hts _ qX7_type_0) (fun _ h9 => h9) rfl (by decide +kernel) rfl rfl (Nat.le_of_ble_eq_true rfl) dX7_type_13 (fun H locs hP hD hS => ?_)
    obtain ⟨hP, hD⟩ := pM_thr hP hD
    refine lv_aload_n hx hb dX7_type_16 rfl (lv_at hl 0 rfl) ?_
    refine va_get (D := (dC, dI)) (ci := 7) (v := .int (gMW_thr (sMW_thr u (bI (if (bI (f_X7_noByte a1)) = (0 : Int32) then false else true : Bool))))) (C := RX7) (T := TX7) (N := 30) hx hb hts iX7_type_X7 hown hK hP 0 rfl rfl 0 (by decide) (hts _ qX7_type_0) (fun _ h9 => h9) rfl dX7_type_17 ?_
    refine lv_if_le (tgt := 25) hx hb dX7_type_20 (by decide) (fun c2 => ?_) (fun c2 => ?_)
    · skip
      refine lv_aload_n hx hb dX7_type_25 rfl (lv_at hl 0 rfl) ?_
      refine va_get (D := (dC, dI)) (ci := 7) (v := .int (gMW_ins (sMW_thr u (bI (if (bI (f_X7_noByte a1)) = (0 : Int32) then false else true : Bool))))) (C := RX7) (T := TX7) (N := 30) hx hb hts iX7_type_X7 hown hK hP 0 rfl rfl 18 (by decide) (hts _ qX7_type_1) (fun _ h9 => h9) rfl dX7_type_26 ?_
      refine lv_bipush (v := 64) hx hb dX7_type_29 (by decide) ?_
      refine lv_icmp_ne (tgt := 36) hx hb dX7_type_31 (by decide) (fun c3 => ?_) (fun c3 => ?_)
      · skip
        refine lv_aload_n hx hb dX7_type_36 rfl (lv_at hl 0 rfl) ?_
        refine va_get (D := (dC, dI)) (ci := 7) (v := .ref inA) (C := RX7) (T := TX7) (N := 30) hx hb hts iX7_type_X7 hown hK hP 0 rfl rfl 17 (by decide) (hts _ qX7_type_2) (fun _ h9 => h9) rfl dX7_type_37 ?_
        refine lv_aload_n hx hb dX7_type_40 rfl (lv_at hl 0 rfl) ?_
        refine va_get (D := (dC, dI)) (ci := 7) (v := .int (gMW_ins (sMW_thr u (bI (if (bI (f_X7_noByte a1)) = (0 : Int32) then false else true : Bool))))) (C := RX7) (T := TX7) (N := 30) hx hb hts iX7_type_X7 hown hK hP 0 rfl rfl 18 (by decide) (hts _ qX7_type_1) (fun _ h9 => h9) rfl dX7_type_41 ?_
        refine lv_iload_n hx hb dX7_type_44 rfl (lv_at hl 1 rfl) ?_
        refine va_iast (f := (gMW_inp (sMW_thr u (bI (if (bI (f_X7_noByte a1)) = (0 : Int32) then false else true : Bool))))) hx hb hK hP hD hS 4 0 rfl rfl (ix_ty hI c3) dX7_type_45 (fun H locs hP hD hS => ?_)
        obtain ⟨hP, hD⟩ := aM_inA hP hD
        refine lv_aload_n hx hb dX7_type_46 rfl (lv_at hl 0 rfl) ?_
        refine lv_dup hx hb dX7_type_47 rfl ?_
        refine va_get (D := (dC, dI)) (ci := 7) (v := .int (gMW_ins (sMW_inp (sMW_thr u (bI (if (bI (f_X7_noByte a1)) = (0 : Int32) then false else true : Bool))) (upd (gMW_inp (sMW_thr u (bI (if (bI (f_X7_noByte a1)) = (0 : Int32) then false else true : Bool)))) ((gMW_ins (sMW_thr u (bI (if (bI (f_X7_noByte a1)) = (0 : Int32) then false else true : Bool)))) : Int32).toNatClampNeg a1)))) (C := RX7) (T := TX7) (N := 30) hx hb hts iX7_type_X7 hown hK hP 0 rfl rfl 18 (by decide) (hts _ qX7_type_1) (fun _ h9 => h9) rfl dX7_type_48 ?_
        refine lv_iconst (v := 1) hx hb dX7_type_51 (by decide) ?_
        refine lv_iadd hx hb dX7_type_52 ?_
        refine va_put (D := (dC, dI)) (ci := 7) (v := .int ((gMW_ins (sMW_inp (sMW_thr u (bI (if (bI (f_X7_noByte a1)) = (0 : Int32) then false else true : Bool))) (upd (gMW_inp (sMW_thr u (bI (if (bI (f_X7_noByte a1)) = (0 : Int32) then false else true : Bool)))) ((gMW_ins (sMW_thr u (bI (if (bI (f_X7_noByte a1)) = (0 : Int32) then false else true : Bool)))) : Int32).toNatClampNeg a1))) + (1 : Int32))) (ty := .int) (C := RX7) (T := TX7) (N := 30) hx hb hts iX7_type_X7 tyX7 tyX7_ok nmX7 hown hK hP hD hS 0 rfl rfl 18 (by decide) (hts _ qX7_type_1) (fun _ h9 => h9) rfl (by decide +kernel) rfl rfl (Nat.le_of_ble_eq_true rfl) dX7_type_53 (fun H locs hP hD hS => ?_)
        obtain ⟨hP, hD⟩ := pM_ins hP hD
        refine lv_aload_n hx hb dX7_type_56 rfl (lv_at hl 0 rfl) ?_
        refine va_get (D := (dC, dI)) (ci := 7) (v := .int (gMW_ins (sMW_ins (sMW_inp (sMW_thr u (bI (if (bI (f_X7_noByte a1)) = (0 : Int32) then false else true : Bool))) (upd (gMW_inp (sMW_thr u (bI (if (bI (f_X7_noByte a1)) = (0 : Int32) then false else true : Bool)))) ((gMW_ins (sMW_thr u (bI (if (bI (f_X7_noByte a1)) = (0 : Int32) then false else true : Bool)))) : Int32).toNatClampNeg a1)) ((gMW_ins (sMW_inp (sMW_thr u (bI (if (bI (f_X7_noByte a1)) = (0 : Int32) then false else true : Bool))) (upd (gMW_inp (sMW_thr u (bI (if (bI (f_X7_noByte a1)) = (0 : Int32) then false else true : Bool)))) ((gMW_ins (sMW_thr u (bI (if (bI (f_X7_noByte a1)) = (0 : Int32) then false else true : Bool)))) : Int32).toNatClampNeg a1))) + (1 : Int32))))) (C := RX7) (T := TX7) (N := 30) hx hb hts iX7_type_X7 hown hK hP 0 rfl rfl 18 (by decide) (hts _ qX7_type_1) (fun _ h9 => h9) rfl dX7_type_57 ?_
        exact W.iret (v := (gMW_ins (sMW_ins (sMW_inp (sMW_thr u (bI (if (bI (f_X7_noByte a1)) = (0 : Int32) then false else true : Bool))) (upd (gMW_inp (sMW_thr u (bI (if (bI (f_X7_noByte a1)) = (0 : Int32) then false else true : Bool)))) ((gMW_ins (sMW_thr u (bI (if (bI (f_X7_noByte a1)) = (0 : Int32) then false else true : Bool)))) : Int32).toNatClampNeg a1)) ((gMW_ins (sMW_inp (sMW_thr u (bI (if (bI (f_X7_noByte a1)) = (0 : Int32) then false else true : Bool))) (upd (gMW_inp (sMW_thr u (bI (if (bI (f_X7_noByte a1)) = (0 : Int32) then false else true : Bool)))) ((gMW_ins (sMW_thr u (bI (if (bI (f_X7_noByte a1)) = (0 : Int32) then false else true : Bool)))) : Int32).toNatClampNeg a1))) + (1 : Int32))))) hx hb hr (fun t ht hW => ⟨⟨(gMW_ins (sMW_ins (sMW_inp (sMW_thr u (bI (if (bI (f_X7_noByte a1)) = (0 : Int32) then false else true : Bool))) (upd (gMW_inp (sMW_thr u (bI (if (bI (f_X7_noByte a1)) = (0 : Int32) then false else true : Bool)))) ((gMW_ins (sMW_thr u (bI (if (bI (f_X7_noByte a1)) = (0 : Int32) then false else true : Bool)))) : Int32).toNatClampNeg a1)) ((gMW_ins (sMW_inp (sMW_thr u (bI (if (bI (f_X7_noByte a1)) = (0 : Int32) then false else true : Bool))) (upd (gMW_inp (sMW_thr u (bI (if (bI (f_X7_noByte a1)) = (0 : Int32) then false else true : Bool)))) ((gMW_ins (sMW_thr u (bI (if (bI (f_X7_noByte a1)) = (0 : Int32) then false else true : Bool)))) : Int32).toNatClampNeg a1))) + (1 : Int32)))), (sMW_ins (sMW_inp (sMW_thr u (bI (if (bI (f_X7_noByte a1)) = (0 : Int32) then false else true : Bool))) (upd (gMW_inp (sMW_thr u (bI (if (bI (f_X7_noByte a1)) = (0 : Int32) then false else true : Bool)))) ((gMW_ins (sMW_thr u (bI (if (bI (f_X7_noByte a1)) = (0 : Int32) then false else true : Bool)))) : Int32).toNatClampNeg a1)) ((gMW_ins (sMW_inp (sMW_thr u (bI (if (bI (f_X7_noByte a1)) = (0 : Int32) then false else true : Bool))) (upd (gMW_inp (sMW_thr u (bI (if (bI (f_X7_noByte a1)) = (0 : Int32) then false else true : Bool)))) ((gMW_ins (sMW_thr u (bI (if (bI (f_X7_noByte a1)) = (0 : Int32) then false else true : Bool)))) : Int32).toNatClampNeg a1))) + (1 : Int32))), rfl, ⟨(by simp only [f_X7_type, if_pos c2, if_neg c3]), (by simp only [f_X7_type, if_pos c2, if_neg c3])⟩, by rw [ht]; exact hP, va_K.moved hW.alike hK, hD⟩, hS.F ht⟩) hS.2.2 dX7_type_60
      · skip
        refine lv_iconst (v := (-1)) hx hb dX7_type_34 (by decide) ?_
        exact W.iret (v := (-1)) hx hb hr (fun t ht hW => ⟨⟨(-1), (sMW_thr u (bI (if (bI (f_X7_noByte a1)) = (0 : Int32) then false else true : Bool))), rfl, ⟨(by simp only [f_X7_type, if_pos c2, if_pos c3]), (by simp only [f_X7_type, if_pos c2, if_pos c3])⟩, by rw [ht]; exact hP, va_K.moved hW.alike hK, hD⟩, hS.F ht⟩) hS.2.2 dX7_type_35
    · skip
      refine lv_iconst (v := 0) hx hb dX7_type_23 (by decide) ?_
      exact W.iret (v := 0) hx hb hr (fun t ht hW => ⟨⟨0, (sMW_thr u (bI (if (bI (f_X7_noByte a1)) = (0 : Int32) then false else true : Bool))), rfl, ⟨(by simp only [f_X7_type, if_neg c2]), (by simp only [f_X7_type, if_neg c2])⟩, by rw [ht]; exact hP, va_K.moved hW.alike hK, hD⟩, hS.F ht⟩) hS.2.2 dX7_type_24
  · skip
    refine lv_if_eq (tgt := 12) hx hb dX7_type_5 (by decide) (fun c4 => ?_) (fun c4 => ?_)
    · skip
      refine lv_iconst (v := 0) hx hb dX7_type_12 (by decide) ?_
      exact hJ1 false _ _ _ (by simp only [if_pos c4]) hP hS (lv_sub hl [0, 1] rfl)
    · skip
      refine lv_iconst (v := 1) hx hb dX7_type_8 (by decide) ?_
      refine lv_goto (tgt := 13) hx hb dX7_type_9 (by decide) ?_
      exact hJ1 true _ _ _ (by simp only [if_neg c4]) hP hS (lv_sub hl [0, 1] rfl)

def f_X7_text (u : MW) (a1 : Int32) : Int32 × MW := ((if (gMW_thr (sMW_thr u (bI (if a1 < (0 : Int32) then true else (if (gMW_outs u) ≤ a1 then true else (if ((gMW_outs u) - (256 : Int32)) ≤ a1 then false else true : Bool) : Bool) : Bool)))) ≤ (0 : Int32) then ((gMW_out (sMW_thr u (bI (if a1 < (0 : Int32) then true else (if (gMW_outs u) ≤ a1 then true else (if ((gMW_outs u) - (256 : Int32)) ≤ a1 then false else true : Bool) : Bool) : Bool)))) ((a1 - a1 / (256 : Int32) * (256 : Int32)) : Int32).toNatClampNeg) else 0 : Int32), (sMW_thr u (bI (if a1 < (0 : Int32) then true else (if (gMW_outs u) ≤ a1 then true else (if ((gMW_outs u) - (256 : Int32)) ≤ a1 then false else true : Bool) : Bool) : Bool))))
theorem qX7_text_0 : Cond.fieldLink RX7 109 "DiskMachineModel" "outputs" "I" ∈ wsX7_text := by decide +kernel
theorem qX7_text_1 : Cond.fieldLink RX7 29 "DiskMachineModel" "thrown" "I" ∈ wsX7_text := by decide +kernel
theorem qX7_text_2 : Cond.fieldLink RX7 26 "DiskMachineModel" "output" "[I" ∈ wsX7_text := by decide +kernel
theorem iX7_text_X7 : ∀ w ∈ wsX70, w ∈ wsX7_text := by decide +kernel
set_option maxHeartbeats 4000000 in
set_option maxRecDepth 100000 in
theorem k_X7_text (l : Launch) (dC : Nat → ClassId) (dI : Nat → Nat → Nat) (cI : ClassId) (mO memA dskA rgA inA outA : Nat) (sz : Nat) (u : MW) (a1 : Int32) : Met l yX7_text wsX7_text ({ frames := 0, cells := 0, slots := 0, locals := 0 }) (va_Pc [.ref mO, .int a1] (wB dC dI [(cI, .int)] sz (wM cI mO memA dskA rgA inA outA u))) (va_Qi (fun (r : Int32) (u' : MW) => r = (f_X7_text u a1).1 ∧ u' = (f_X7_text u a1).2) (fun u' => wE dC dI [(cI, .int)] (va_A (wM cI mO memA dskA rgA inA outA u) sz) (wM cI mO memA dskA rgA inA outA u')) (va_A (wM cI mO memA dskA rgA inA outA u) sz)) 0 0 (va_A (wM cI mO memA dskA rgA inA outA u) sz) := by
  refine Met.ofW (cc := cX7_text) (maxL := 2) (ret := (some .int)) (by decide) rfl ?_
  intro p e s m args below meth c s₁ B hml hv
  obtain ⟨rfl, hsz, hP, hK, hD0⟩ := hv
  have hx := B.exec
  have hb := B.bytes
  have hr := B.returns
  have hts := atoms_spec (ws := wsX7_text) B.pre
  have hown : s.vm.findClass RX7 = some m.cls := findClass_of_methodNamed B.named
  have hlocks := B.notSynchronized
  subst hsz
  have hD := hD0.self (sz := s.heap.size)
  generalize hAe : va_A (wM cI mO memA dskA rgA inA outA u) s.heap.size = A at hD ⊢
  have hA : ∀ q : Nat, s.heap.size ≤ q → A q := fun q h => by rw [← hAe]; exact Or.inr h
  have hS : va_S A s.heap s.heap [] := va_S.rf
  have hP : va_P (dC, dI) vwCl (wM cI mO memA dskA rgA inA outA u) s.heap := hP
  clear hAe hD0
  have hl := lv_entry ([.ref mO, .int a1]) (n := 2) (Nat.le_of_ble_eq_true rfl)
  rw [lg_entry_eq]
  generalize (lg_sl ([.ref mO, .int a1]) ++ List.replicate (2 - (lg_sl ([.ref mO, .int a1])).length) Slot.unset).toArray = ls at hl ⊢
  have hl : lv_has ls 2 [(0, .ref mO), (1, .int a1)] := hl
  refine jn_H hP hS (fun H locs hP hS => ?_)
  refine lv_aload_n hx hb dX7_text_0 rfl (lv_at hl 0 rfl) ?_
  refine lv_iload_n hx hb dX7_text_1 rfl (lv_at hl 1 rfl) ?_
  refine jn_b (D := (dC, dI)) (cl := vwCl) (ws := (wM cI mO memA dskA rgA inA outA u)) (A := A) (H0 := s.heap) (nL := 2) 30 (if a1 < (0 : Int32) then true else (if (gMW_outs u) ≤ a1 then true else (if ((gMW_outs u) - (256 : Int32)) ≤ a1 then false else true : Bool) : Bool) : Bool) [(0, .ref mO), (1, .int a1)] [.ref mO] (fun H locs ls hP hS hl => ?_) (fun hJ1 => ?_)
  · skip
    refine va_put (D := (dC, dI)) (ci := 7) (v := .int (bI (if a1 < (0 : Int32) then true else (if (gMW_outs u) ≤ a1 then true else (if ((gMW_outs u) - (256 : Int32)) ≤ a1 then false else true : Bool) : Bool) : Bool))) (ty := .int) (C := RX7) (T := TX7) (N := 30) hx hb hts iX7_text_X7 tyX7 tyX7_ok nmX7 hown hK hP hD hS 0 rfl rfl 0 (by decide) (hts _ qX7_text_1) (fun _ h9 => h9) rfl (by decide +kernel) rfl rfl (Nat.le_of_ble_eq_true rfl) dX7_text_30 (fun H locs hP hD hS => ?_)
    obtain ⟨hP, hD⟩ := pM_thr hP hD
    refine lv_aload_n hx hb dX7_text_33 rfl (lv_at hl 0 rfl) ?_
    refine va_get (D := (dC, dI)) (ci := 7) (v := .int (gMW_thr (sMW_thr u (bI (if a1 < (0 : Int32) then true else (if (gMW_outs u) ≤ a1 then true else (if ((gMW_outs u) - (256 : Int32)) ≤ a1 then false else true : Bool) : Bool) : Bool))))) (C := RX7) (T := TX7) (N := 30) hx hb hts iX7_text_X7 hown hK hP 0 rfl rfl 0 (by decide) (hts _ qX7_text_1) (fun _ h9 => h9) rfl dX7_text_34 ?_
    refine jn_i (D := (dC, dI)) (cl := vwCl) (ws := (wM cI mO memA dskA rgA inA outA (sMW_thr u (bI (if a1 < (0 : Int32) then true else (if (gMW_outs u) ≤ a1 then true else (if ((gMW_outs u) - (256 : Int32)) ≤ a1 then false else true : Bool) : Bool) : Bool))))) (A := A) (H0 := s.heap) (nL := 2) 54 (if (gMW_thr (sMW_thr u (bI (if a1 < (0 : Int32) then true else (if (gMW_outs u) ≤ a1 then true else (if ((gMW_outs u) - (256 : Int32)) ≤ a1 then false else true : Bool) : Bool) : Bool)))) ≤ (0 : Int32) then ((gMW_out (sMW_thr u (bI (if a1 < (0 : Int32) then true else (if (gMW_outs u) ≤ a1 then true else (if ((gMW_outs u) - (256 : Int32)) ≤ a1 then false else true : Bool) : Bool) : Bool)))) ((a1 - a1 / (256 : Int32) * (256 : Int32)) : Int32).toNatClampNeg) else 0 : Int32) [(0, .ref mO), (1, .int a1)] [] (fun H locs ls hP hS hl => ?_) (fun hJ2 => ?_)
    · skip
      exact W.iret (v := (if (gMW_thr (sMW_thr u (bI (if a1 < (0 : Int32) then true else (if (gMW_outs u) ≤ a1 then true else (if ((gMW_outs u) - (256 : Int32)) ≤ a1 then false else true : Bool) : Bool) : Bool)))) ≤ (0 : Int32) then ((gMW_out (sMW_thr u (bI (if a1 < (0 : Int32) then true else (if (gMW_outs u) ≤ a1 then true else (if ((gMW_outs u) - (256 : Int32)) ≤ a1 then false else true : Bool) : Bool) : Bool)))) ((a1 - a1 / (256 : Int32) * (256 : Int32)) : Int32).toNatClampNeg) else 0 : Int32)) hx hb hr (fun t ht hW => ⟨⟨(if (gMW_thr (sMW_thr u (bI (if a1 < (0 : Int32) then true else (if (gMW_outs u) ≤ a1 then true else (if ((gMW_outs u) - (256 : Int32)) ≤ a1 then false else true : Bool) : Bool) : Bool)))) ≤ (0 : Int32) then ((gMW_out (sMW_thr u (bI (if a1 < (0 : Int32) then true else (if (gMW_outs u) ≤ a1 then true else (if ((gMW_outs u) - (256 : Int32)) ≤ a1 then false else true : Bool) : Bool) : Bool)))) ((a1 - a1 / (256 : Int32) * (256 : Int32)) : Int32).toNatClampNeg) else 0 : Int32), (sMW_thr u (bI (if a1 < (0 : Int32) then true else (if (gMW_outs u) ≤ a1 then true else (if ((gMW_outs u) - (256 : Int32)) ≤ a1 then false else true : Bool) : Bool) : Bool))), rfl, ⟨rfl, rfl⟩, by rw [ht]; exact hP, va_K.moved hW.alike hK, hD⟩, hS.F ht⟩) hS.2.2 dX7_text_54
    · skip
      refine lv_if_le (tgt := 44) hx hb dX7_text_37 (by decide) (fun c3 => ?_) (fun c3 => ?_)
      · skip
        refine lv_aload_n hx hb dX7_text_44 rfl (lv_at hl 0 rfl) ?_
        refine va_get (D := (dC, dI)) (ci := 7) (v := .ref outA) (C := RX7) (T := TX7) (N := 30) hx hb hts iX7_text_X7 hown hK hP 0 rfl rfl 19 (by decide) (hts _ qX7_text_2) (fun _ h9 => h9) rfl dX7_text_45 ?_
        refine lv_iload_n hx hb dX7_text_48 rfl (lv_at hl 1 rfl) ?_
        refine lv_sipush (v := 256) hx hb dX7_text_49 (by decide) ?_
        refine lv_irem hx hb dX7_text_52 (by decide) ?_
        refine va_iald (f := (gMW_out (sMW_thr u (bI (if a1 < (0 : Int32) then true else (if (gMW_outs u) ≤ a1 then true else (if ((gMW_outs u) - (256 : Int32)) ≤ a1 then false else true : Bool) : Bool) : Bool))))) hx hb hK hP 5 0 rfl rfl (ix_tx c3) dX7_text_53 ?_
        exact hJ2 ((gMW_out (sMW_thr u (bI (if a1 < (0 : Int32) then true else (if (gMW_outs u) ≤ a1 then true else (if ((gMW_outs u) - (256 : Int32)) ≤ a1 then false else true : Bool) : Bool) : Bool)))) ((a1 - a1 / (256 : Int32) * (256 : Int32)) : Int32).toNatClampNeg) _ _ _ (by simp only [if_pos c3]) hP hS (lv_sub hl [0, 1] rfl)
      · skip
        refine lv_iconst (v := 0) hx hb dX7_text_40 (by decide) ?_
        refine lv_goto (tgt := 54) hx hb dX7_text_41 (by decide) ?_
        exact hJ2 0 _ _ _ (by simp only [if_neg c3]) hP hS (lv_sub hl [0, 1] rfl)
  · skip
    refine lv_if_lt (tgt := 25) hx hb dX7_text_2 (by decide) (fun c4 => ?_) (fun c4 => ?_)
    · skip
      refine lv_iconst (v := 1) hx hb dX7_text_25 (by decide) ?_
      refine lv_goto (tgt := 30) hx hb dX7_text_26 (by decide) ?_
      exact hJ1 true _ _ _ (by simp only [if_pos c4]) hP hS (lv_sub hl [0, 1] rfl)
    · skip
      refine lv_iload_n hx hb dX7_text_5 rfl (lv_at hl 1 rfl) ?_
      refine lv_aload_n hx hb dX7_text_6 rfl (lv_at hl 0 rfl) ?_
      refine va_get (D := (dC, dI)) (ci := 7) (v := .int (gMW_outs u)) (C := RX7) (T := TX7) (N := 30) hx hb hts iX7_text_X7 hown hK hP 0 rfl rfl 20 (by decide) (hts _ qX7_text_0) (fun _ h9 => h9) rfl dX7_text_7 ?_
      refine jn_b (D := (dC, dI)) (cl := vwCl) (ws := (wM cI mO memA dskA rgA inA outA u)) (A := A) (H0 := s.heap) (nL := 2) 30 (if (gMW_outs u) ≤ a1 then true else (if ((gMW_outs u) - (256 : Int32)) ≤ a1 then false else true : Bool) : Bool) [(0, .ref mO), (1, .int a1)] [.ref mO] (fun H locs ls hP hS hl => ?_) (fun hJ5 => ?_)
      · skip
        exact hJ1 (if (gMW_outs u) ≤ a1 then true else (if ((gMW_outs u) - (256 : Int32)) ≤ a1 then false else true : Bool) : Bool) _ _ _ (by simp only [if_neg c4]) hP hS (lv_sub hl [0, 1] rfl)
      · skip
        refine lv_icmp_ge (tgt := 25) hx hb dX7_text_10 (by decide) (fun c6 => ?_) (fun c6 => ?_)
        · skip
          refine lv_iconst (v := 1) hx hb dX7_text_25 (by decide) ?_
          refine lv_goto (tgt := 30) hx hb dX7_text_26 (by decide) ?_
          exact hJ5 true _ _ _ (by simp only [if_pos c6]) hP hS (lv_sub hl [0, 1] rfl)
        · skip
          refine lv_iload_n hx hb dX7_text_13 rfl (lv_at hl 1 rfl) ?_
          refine lv_aload_n hx hb dX7_text_14 rfl (lv_at hl 0 rfl) ?_
          refine va_get (D := (dC, dI)) (ci := 7) (v := .int (gMW_outs u)) (C := RX7) (T := TX7) (N := 30) hx hb hts iX7_text_X7 hown hK hP 0 rfl rfl 20 (by decide) (hts _ qX7_text_0) (fun _ h9 => h9) rfl dX7_text_15 ?_
          refine lv_sipush (v := 256) hx hb dX7_text_18 (by decide) ?_
          refine lv_isub hx hb dX7_text_21 ?_
          refine jn_b (D := (dC, dI)) (cl := vwCl) (ws := (wM cI mO memA dskA rgA inA outA u)) (A := A) (H0 := s.heap) (nL := 2) 30 (if ((gMW_outs u) - (256 : Int32)) ≤ a1 then false else true : Bool) [(0, .ref mO), (1, .int a1)] [.ref mO] (fun H locs ls hP hS hl => ?_) (fun hJ7 => ?_)
          · skip
            exact hJ5 (if ((gMW_outs u) - (256 : Int32)) ≤ a1 then false else true : Bool) _ _ _ (by simp only [if_neg c6]) hP hS (lv_sub hl [0, 1] rfl)
          · skip
            refine lv_icmp_ge (tgt := 29) hx hb dX7_text_22 (by decide) (fun c8 => ?_) (fun c8 => ?_)
            · skip
              refine lv_iconst (v := 0) hx hb dX7_text_29 (by decide) ?_
              exact hJ7 false _ _ _ (by simp only [if_pos c8]) hP hS (lv_sub hl [0, 1] rfl)
            · skip
              refine lv_iconst (v := 1) hx hb dX7_text_25 (by decide) ?_
              refine lv_goto (tgt := 30) hx hb dX7_text_26 (by decide) ?_
              exact hJ7 true _ _ _ (by simp only [if_neg c8]) hP hS (lv_sub hl [0, 1] rfl)

def f_X7_told (u : MW) (a1 : Int32) : Int32 × MW := 
  if (gMW_thr (sMW_thr u (bI (if a1 < (0 : Int32) then true else (if a1 ≤ (5 : Int32) then false else true : Bool) : Bool)))) ≤ (0 : Int32) then ((if a1 = (0 : Int32) then (bI (if (bI (gMW_hlt (sMW_thr u (bI (if a1 < (0 : Int32) then true else (if a1 ≤ (5 : Int32) then false else true : Bool) : Bool))))) = (0 : Int32) then false else true : Bool)) else (if a1 = (1 : Int32) then (bI (if (bI (gMW_on (sMW_thr u (bI (if a1 < (0 : Int32) then true else (if a1 ≤ (5 : Int32) then false else true : Bool) : Bool))))) = (0 : Int32) then false else true : Bool)) else (if a1 = (2 : Int32) then (gMW_want (sMW_thr u (bI (if a1 < (0 : Int32) then true else (if a1 ≤ (5 : Int32) then false else true : Bool) : Bool)))) else (if a1 = (3 : Int32) then (gMW_st (sMW_thr u (bI (if a1 < (0 : Int32) then true else (if a1 ≤ (5 : Int32) then false else true : Bool) : Bool)))) else (if a1 = (4 : Int32) then (gMW_mov (sMW_thr u (bI (if a1 < (0 : Int32) then true else (if a1 ≤ (5 : Int32) then false else true : Bool) : Bool)))) else (gMW_adr (sMW_thr u (bI (if a1 < (0 : Int32) then true else (if a1 ≤ (5 : Int32) then false else true : Bool) : Bool)))) : Int32) : Int32) : Int32) : Int32) : Int32), (sMW_thr u (bI (if a1 < (0 : Int32) then true else (if a1 ≤ (5 : Int32) then false else true : Bool) : Bool))))
  else (0, (sMW_thr u (bI (if a1 < (0 : Int32) then true else (if a1 ≤ (5 : Int32) then false else true : Bool) : Bool))))
theorem qX7_told_0 : Cond.fieldLink RX7 29 "DiskMachineModel" "thrown" "I" ∈ wsX7_told := by decide +kernel
theorem qX7_told_1 : Cond.fieldLink RX7 115 "DiskMachineModel" "address" "I" ∈ wsX7_told := by decide +kernel
theorem qX7_told_2 : Cond.fieldLink RX7 128 "DiskMachineModel" "moved" "I" ∈ wsX7_told := by decide +kernel
theorem qX7_told_3 : Cond.fieldLink RX7 106 "DiskMachineModel" "state" "I" ∈ wsX7_told := by decide +kernel
theorem qX7_told_4 : Cond.fieldLink RX7 19 "DiskMachineModel" "wanted" "I" ∈ wsX7_told := by decide +kernel
theorem qX7_told_5 : Cond.fieldLink RX7 196 "DiskMachineModel" "on" "Z" ∈ wsX7_told := by decide +kernel
theorem qX7_told_6 : Cond.fieldLink RX7 204 "DiskMachineModel" "halted" "Z" ∈ wsX7_told := by decide +kernel
theorem iX7_told_X7 : ∀ w ∈ wsX70, w ∈ wsX7_told := by decide +kernel
set_option maxHeartbeats 4000000 in
set_option maxRecDepth 100000 in
theorem k_X7_told (l : Launch) (dC : Nat → ClassId) (dI : Nat → Nat → Nat) (cI : ClassId) (mO memA dskA rgA inA outA : Nat) (sz : Nat) (u : MW) (a1 : Int32) : Met l yX7_told wsX7_told ({ frames := 0, cells := 0, slots := 0, locals := 0 }) (va_Pc [.ref mO, .int a1] (wB dC dI [(cI, .int)] sz (wM cI mO memA dskA rgA inA outA u))) (va_Qi (fun (r : Int32) (u' : MW) => r = (f_X7_told u a1).1 ∧ u' = (f_X7_told u a1).2) (fun u' => wE dC dI [(cI, .int)] (va_A (wM cI mO memA dskA rgA inA outA u) sz) (wM cI mO memA dskA rgA inA outA u')) (va_A (wM cI mO memA dskA rgA inA outA u) sz)) 0 0 (va_A (wM cI mO memA dskA rgA inA outA u) sz) := by
  refine Met.ofW (cc := cX7_told) (maxL := 2) (ret := (some .int)) (by decide) rfl ?_
  intro p e s m args below meth c s₁ B hml hv
  obtain ⟨rfl, hsz, hP, hK, hD0⟩ := hv
  have hx := B.exec
  have hb := B.bytes
  have hr := B.returns
  have hts := atoms_spec (ws := wsX7_told) B.pre
  have hown : s.vm.findClass RX7 = some m.cls := findClass_of_methodNamed B.named
  have hlocks := B.notSynchronized
  subst hsz
  have hD := hD0.self (sz := s.heap.size)
  generalize hAe : va_A (wM cI mO memA dskA rgA inA outA u) s.heap.size = A at hD ⊢
  have hA : ∀ q : Nat, s.heap.size ≤ q → A q := fun q h => by rw [← hAe]; exact Or.inr h
  have hS : va_S A s.heap s.heap [] := va_S.rf
  have hP : va_P (dC, dI) vwCl (wM cI mO memA dskA rgA inA outA u) s.heap := hP
  clear hAe hD0
  have hl := lv_entry ([.ref mO, .int a1]) (n := 2) (Nat.le_of_ble_eq_true rfl)
  rw [lg_entry_eq]
  generalize (lg_sl ([.ref mO, .int a1]) ++ List.replicate (2 - (lg_sl ([.ref mO, .int a1])).length) Slot.unset).toArray = ls at hl ⊢
  have hl : lv_has ls 2 [(0, .ref mO), (1, .int a1)] := hl
  refine jn_H hP hS (fun H locs hP hS => ?_)
  refine lv_aload_n hx hb dX7_told_0 rfl (lv_at hl 0 rfl) ?_
  refine lv_iload_n hx hb dX7_told_1 rfl (lv_at hl 1 rfl) ?_
  refine jn_b (D := (dC, dI)) (cl := vwCl) (ws := (wM cI mO memA dskA rgA inA outA u)) (A := A) (H0 := s.heap) (nL := 2) 15 (if a1 < (0 : Int32) then true else (if a1 ≤ (5 : Int32) then false else true : Bool) : Bool) [(0, .ref mO), (1, .int a1)] [.ref mO] (fun H locs ls hP hS hl => ?_) (fun hJ1 => ?_)
  · skip
    refine va_put (D := (dC, dI)) (ci := 7) (v := .int (bI (if a1 < (0 : Int32) then true else (if a1 ≤ (5 : Int32) then false else true : Bool) : Bool))) (ty := .int) (C := RX7) (T := TX7) (N := 30) hx hb hts iX7_told_X7 tyX7 tyX7_ok nmX7 hown hK hP hD hS 0 rfl rfl 0 (by decide) (hts _ qX7_told_0) (fun _ h9 => h9) rfl (by decide +kernel) rfl rfl (Nat.le_of_ble_eq_true rfl) dX7_told_15 (fun H locs hP hD hS => ?_)
    obtain ⟨hP, hD⟩ := pM_thr hP hD
    refine lv_aload_n hx hb dX7_told_18 rfl (lv_at hl 0 rfl) ?_
    refine va_get (D := (dC, dI)) (ci := 7) (v := .int (gMW_thr (sMW_thr u (bI (if a1 < (0 : Int32) then true else (if a1 ≤ (5 : Int32) then false else true : Bool) : Bool))))) (C := RX7) (T := TX7) (N := 30) hx hb hts iX7_told_X7 hown hK hP 0 rfl rfl 0 (by decide) (hts _ qX7_told_0) (fun _ h9 => h9) rfl dX7_told_19 ?_
    refine lv_if_le (tgt := 27) hx hb dX7_told_22 (by decide) (fun c2 => ?_) (fun c2 => ?_)
    · skip
      refine lv_iload_n hx hb dX7_told_27 rfl (lv_at hl 1 rfl) ?_
      refine jn_i (D := (dC, dI)) (cl := vwCl) (ws := (wM cI mO memA dskA rgA inA outA (sMW_thr u (bI (if a1 < (0 : Int32) then true else (if a1 ≤ (5 : Int32) then false else true : Bool) : Bool))))) (A := A) (H0 := s.heap) (nL := 2) 106 (if a1 = (0 : Int32) then (bI (if (bI (gMW_hlt (sMW_thr u (bI (if a1 < (0 : Int32) then true else (if a1 ≤ (5 : Int32) then false else true : Bool) : Bool))))) = (0 : Int32) then false else true : Bool)) else (if a1 = (1 : Int32) then (bI (if (bI (gMW_on (sMW_thr u (bI (if a1 < (0 : Int32) then true else (if a1 ≤ (5 : Int32) then false else true : Bool) : Bool))))) = (0 : Int32) then false else true : Bool)) else (if a1 = (2 : Int32) then (gMW_want (sMW_thr u (bI (if a1 < (0 : Int32) then true else (if a1 ≤ (5 : Int32) then false else true : Bool) : Bool)))) else (if a1 = (3 : Int32) then (gMW_st (sMW_thr u (bI (if a1 < (0 : Int32) then true else (if a1 ≤ (5 : Int32) then false else true : Bool) : Bool)))) else (if a1 = (4 : Int32) then (gMW_mov (sMW_thr u (bI (if a1 < (0 : Int32) then true else (if a1 ≤ (5 : Int32) then false else true : Bool) : Bool)))) else (gMW_adr (sMW_thr u (bI (if a1 < (0 : Int32) then true else (if a1 ≤ (5 : Int32) then false else true : Bool) : Bool)))) : Int32) : Int32) : Int32) : Int32) : Int32) [(0, .ref mO), (1, .int a1)] [] (fun H locs ls hP hS hl => ?_) (fun hJ3 => ?_)
      · skip
        exact W.iret (v := (if a1 = (0 : Int32) then (bI (if (bI (gMW_hlt (sMW_thr u (bI (if a1 < (0 : Int32) then true else (if a1 ≤ (5 : Int32) then false else true : Bool) : Bool))))) = (0 : Int32) then false else true : Bool)) else (if a1 = (1 : Int32) then (bI (if (bI (gMW_on (sMW_thr u (bI (if a1 < (0 : Int32) then true else (if a1 ≤ (5 : Int32) then false else true : Bool) : Bool))))) = (0 : Int32) then false else true : Bool)) else (if a1 = (2 : Int32) then (gMW_want (sMW_thr u (bI (if a1 < (0 : Int32) then true else (if a1 ≤ (5 : Int32) then false else true : Bool) : Bool)))) else (if a1 = (3 : Int32) then (gMW_st (sMW_thr u (bI (if a1 < (0 : Int32) then true else (if a1 ≤ (5 : Int32) then false else true : Bool) : Bool)))) else (if a1 = (4 : Int32) then (gMW_mov (sMW_thr u (bI (if a1 < (0 : Int32) then true else (if a1 ≤ (5 : Int32) then false else true : Bool) : Bool)))) else (gMW_adr (sMW_thr u (bI (if a1 < (0 : Int32) then true else (if a1 ≤ (5 : Int32) then false else true : Bool) : Bool)))) : Int32) : Int32) : Int32) : Int32) : Int32)) hx hb hr (fun t ht hW => ⟨⟨(if a1 = (0 : Int32) then (bI (if (bI (gMW_hlt (sMW_thr u (bI (if a1 < (0 : Int32) then true else (if a1 ≤ (5 : Int32) then false else true : Bool) : Bool))))) = (0 : Int32) then false else true : Bool)) else (if a1 = (1 : Int32) then (bI (if (bI (gMW_on (sMW_thr u (bI (if a1 < (0 : Int32) then true else (if a1 ≤ (5 : Int32) then false else true : Bool) : Bool))))) = (0 : Int32) then false else true : Bool)) else (if a1 = (2 : Int32) then (gMW_want (sMW_thr u (bI (if a1 < (0 : Int32) then true else (if a1 ≤ (5 : Int32) then false else true : Bool) : Bool)))) else (if a1 = (3 : Int32) then (gMW_st (sMW_thr u (bI (if a1 < (0 : Int32) then true else (if a1 ≤ (5 : Int32) then false else true : Bool) : Bool)))) else (if a1 = (4 : Int32) then (gMW_mov (sMW_thr u (bI (if a1 < (0 : Int32) then true else (if a1 ≤ (5 : Int32) then false else true : Bool) : Bool)))) else (gMW_adr (sMW_thr u (bI (if a1 < (0 : Int32) then true else (if a1 ≤ (5 : Int32) then false else true : Bool) : Bool)))) : Int32) : Int32) : Int32) : Int32) : Int32), (sMW_thr u (bI (if a1 < (0 : Int32) then true else (if a1 ≤ (5 : Int32) then false else true : Bool) : Bool))), rfl, ⟨(by simp only [f_X7_told, if_pos c2]), (by simp only [f_X7_told, if_pos c2])⟩, by rw [ht]; exact hP, va_K.moved hW.alike hK, hD⟩, hS.F ht⟩) hS.2.2 dX7_told_106
      · skip
        refine lv_if_ne (tgt := 46) hx hb dX7_told_28 (by decide) (fun c4 => ?_) (fun c4 => ?_)
        · skip
          refine lv_iload_n hx hb dX7_told_46 rfl (lv_at hl 1 rfl) ?_
          refine lv_iconst (v := 1) hx hb dX7_told_47 (by decide) ?_
          refine jn_i (D := (dC, dI)) (cl := vwCl) (ws := (wM cI mO memA dskA rgA inA outA (sMW_thr u (bI (if a1 < (0 : Int32) then true else (if a1 ≤ (5 : Int32) then false else true : Bool) : Bool))))) (A := A) (H0 := s.heap) (nL := 2) 106 (if a1 = (1 : Int32) then (bI (if (bI (gMW_on (sMW_thr u (bI (if a1 < (0 : Int32) then true else (if a1 ≤ (5 : Int32) then false else true : Bool) : Bool))))) = (0 : Int32) then false else true : Bool)) else (if a1 = (2 : Int32) then (gMW_want (sMW_thr u (bI (if a1 < (0 : Int32) then true else (if a1 ≤ (5 : Int32) then false else true : Bool) : Bool)))) else (if a1 = (3 : Int32) then (gMW_st (sMW_thr u (bI (if a1 < (0 : Int32) then true else (if a1 ≤ (5 : Int32) then false else true : Bool) : Bool)))) else (if a1 = (4 : Int32) then (gMW_mov (sMW_thr u (bI (if a1 < (0 : Int32) then true else (if a1 ≤ (5 : Int32) then false else true : Bool) : Bool)))) else (gMW_adr (sMW_thr u (bI (if a1 < (0 : Int32) then true else (if a1 ≤ (5 : Int32) then false else true : Bool) : Bool)))) : Int32) : Int32) : Int32) : Int32) [(0, .ref mO), (1, .int a1)] [] (fun H locs ls hP hS hl => ?_) (fun hJ5 => ?_)
          · skip
            exact hJ3 (if a1 = (1 : Int32) then (bI (if (bI (gMW_on (sMW_thr u (bI (if a1 < (0 : Int32) then true else (if a1 ≤ (5 : Int32) then false else true : Bool) : Bool))))) = (0 : Int32) then false else true : Bool)) else (if a1 = (2 : Int32) then (gMW_want (sMW_thr u (bI (if a1 < (0 : Int32) then true else (if a1 ≤ (5 : Int32) then false else true : Bool) : Bool)))) else (if a1 = (3 : Int32) then (gMW_st (sMW_thr u (bI (if a1 < (0 : Int32) then true else (if a1 ≤ (5 : Int32) then false else true : Bool) : Bool)))) else (if a1 = (4 : Int32) then (gMW_mov (sMW_thr u (bI (if a1 < (0 : Int32) then true else (if a1 ≤ (5 : Int32) then false else true : Bool) : Bool)))) else (gMW_adr (sMW_thr u (bI (if a1 < (0 : Int32) then true else (if a1 ≤ (5 : Int32) then false else true : Bool) : Bool)))) : Int32) : Int32) : Int32) : Int32) _ _ _ (by simp only [if_neg c4]) hP hS (lv_sub hl [0, 1] rfl)
          · skip
            refine lv_icmp_ne (tgt := 66) hx hb dX7_told_48 (by decide) (fun c6 => ?_) (fun c6 => ?_)
            · skip
              refine lv_iload_n hx hb dX7_told_66 rfl (lv_at hl 1 rfl) ?_
              refine lv_iconst (v := 2) hx hb dX7_told_67 (by decide) ?_
              refine jn_i (D := (dC, dI)) (cl := vwCl) (ws := (wM cI mO memA dskA rgA inA outA (sMW_thr u (bI (if a1 < (0 : Int32) then true else (if a1 ≤ (5 : Int32) then false else true : Bool) : Bool))))) (A := A) (H0 := s.heap) (nL := 2) 106 (if a1 = (2 : Int32) then (gMW_want (sMW_thr u (bI (if a1 < (0 : Int32) then true else (if a1 ≤ (5 : Int32) then false else true : Bool) : Bool)))) else (if a1 = (3 : Int32) then (gMW_st (sMW_thr u (bI (if a1 < (0 : Int32) then true else (if a1 ≤ (5 : Int32) then false else true : Bool) : Bool)))) else (if a1 = (4 : Int32) then (gMW_mov (sMW_thr u (bI (if a1 < (0 : Int32) then true else (if a1 ≤ (5 : Int32) then false else true : Bool) : Bool)))) else (gMW_adr (sMW_thr u (bI (if a1 < (0 : Int32) then true else (if a1 ≤ (5 : Int32) then false else true : Bool) : Bool)))) : Int32) : Int32) : Int32) [(0, .ref mO), (1, .int a1)] [] (fun H locs ls hP hS hl => ?_) (fun hJ7 => ?_)
              · skip
                exact hJ5 (if a1 = (2 : Int32) then (gMW_want (sMW_thr u (bI (if a1 < (0 : Int32) then true else (if a1 ≤ (5 : Int32) then false else true : Bool) : Bool)))) else (if a1 = (3 : Int32) then (gMW_st (sMW_thr u (bI (if a1 < (0 : Int32) then true else (if a1 ≤ (5 : Int32) then false else true : Bool) : Bool)))) else (if a1 = (4 : Int32) then (gMW_mov (sMW_thr u (bI (if a1 < (0 : Int32) then true else (if a1 ≤ (5 : Int32) then false else true : Bool) : Bool)))) else (gMW_adr (sMW_thr u (bI (if a1 < (0 : Int32) then true else (if a1 ≤ (5 : Int32) then false else true : Bool) : Bool)))) : Int32) : Int32) : Int32) _ _ _ (by simp only [if_neg c6]) hP hS (lv_sub hl [0, 1] rfl)
              · skip
                refine lv_icmp_ne (tgt := 78) hx hb dX7_told_68 (by decide) (fun c8 => ?_) (fun c8 => ?_)
                · skip
                  refine lv_iload_n hx hb dX7_told_78 rfl (lv_at hl 1 rfl) ?_
                  refine lv_iconst (v := 3) hx hb dX7_told_79 (by decide) ?_
                  refine jn_i (D := (dC, dI)) (cl := vwCl) (ws := (wM cI mO memA dskA rgA inA outA (sMW_thr u (bI (if a1 < (0 : Int32) then true else (if a1 ≤ (5 : Int32) then false else true : Bool) : Bool))))) (A := A) (H0 := s.heap) (nL := 2) 106 (if a1 = (3 : Int32) then (gMW_st (sMW_thr u (bI (if a1 < (0 : Int32) then true else (if a1 ≤ (5 : Int32) then false else true : Bool) : Bool)))) else (if a1 = (4 : Int32) then (gMW_mov (sMW_thr u (bI (if a1 < (0 : Int32) then true else (if a1 ≤ (5 : Int32) then false else true : Bool) : Bool)))) else (gMW_adr (sMW_thr u (bI (if a1 < (0 : Int32) then true else (if a1 ≤ (5 : Int32) then false else true : Bool) : Bool)))) : Int32) : Int32) [(0, .ref mO), (1, .int a1)] [] (fun H locs ls hP hS hl => ?_) (fun hJ9 => ?_)
                  · skip
                    exact hJ7 (if a1 = (3 : Int32) then (gMW_st (sMW_thr u (bI (if a1 < (0 : Int32) then true else (if a1 ≤ (5 : Int32) then false else true : Bool) : Bool)))) else (if a1 = (4 : Int32) then (gMW_mov (sMW_thr u (bI (if a1 < (0 : Int32) then true else (if a1 ≤ (5 : Int32) then false else true : Bool) : Bool)))) else (gMW_adr (sMW_thr u (bI (if a1 < (0 : Int32) then true else (if a1 ≤ (5 : Int32) then false else true : Bool) : Bool)))) : Int32) : Int32) _ _ _ (by simp only [if_neg c8]) hP hS (lv_sub hl [0, 1] rfl)
                  · skip
                    refine lv_icmp_ne (tgt := 90) hx hb dX7_told_80 (by decide) (fun c10 => ?_) (fun c10 => ?_)
                    · skip
                      refine lv_iload_n hx hb dX7_told_90 rfl (lv_at hl 1 rfl) ?_
                      refine lv_iconst (v := 4) hx hb dX7_told_91 (by decide) ?_
                      refine jn_i (D := (dC, dI)) (cl := vwCl) (ws := (wM cI mO memA dskA rgA inA outA (sMW_thr u (bI (if a1 < (0 : Int32) then true else (if a1 ≤ (5 : Int32) then false else true : Bool) : Bool))))) (A := A) (H0 := s.heap) (nL := 2) 106 (if a1 = (4 : Int32) then (gMW_mov (sMW_thr u (bI (if a1 < (0 : Int32) then true else (if a1 ≤ (5 : Int32) then false else true : Bool) : Bool)))) else (gMW_adr (sMW_thr u (bI (if a1 < (0 : Int32) then true else (if a1 ≤ (5 : Int32) then false else true : Bool) : Bool)))) : Int32) [(0, .ref mO), (1, .int a1)] [] (fun H locs ls hP hS hl => ?_) (fun hJ11 => ?_)
                      · skip
                        exact hJ9 (if a1 = (4 : Int32) then (gMW_mov (sMW_thr u (bI (if a1 < (0 : Int32) then true else (if a1 ≤ (5 : Int32) then false else true : Bool) : Bool)))) else (gMW_adr (sMW_thr u (bI (if a1 < (0 : Int32) then true else (if a1 ≤ (5 : Int32) then false else true : Bool) : Bool)))) : Int32) _ _ _ (by simp only [if_neg c10]) hP hS (lv_sub hl [0, 1] rfl)
                      · skip
                        refine lv_icmp_ne (tgt := 102) hx hb dX7_told_92 (by decide) (fun c12 => ?_) (fun c12 => ?_)
                        · skip
                          refine lv_aload_n hx hb dX7_told_102 rfl (lv_at hl 0 rfl) ?_
                          refine va_get (D := (dC, dI)) (ci := 7) (v := .int (gMW_adr (sMW_thr u (bI (if a1 < (0 : Int32) then true else (if a1 ≤ (5 : Int32) then false else true : Bool) : Bool))))) (C := RX7) (T := TX7) (N := 30) hx hb hts iX7_told_X7 hown hK hP 0 rfl rfl 22 (by decide) (hts _ qX7_told_1) (fun _ h9 => h9) rfl dX7_told_103 ?_
                          exact hJ11 (gMW_adr (sMW_thr u (bI (if a1 < (0 : Int32) then true else (if a1 ≤ (5 : Int32) then false else true : Bool) : Bool)))) _ _ _ (by simp only [if_neg c12]) hP hS (lv_sub hl [0, 1] rfl)
                        · skip
                          refine lv_aload_n hx hb dX7_told_95 rfl (lv_at hl 0 rfl) ?_
                          refine va_get (D := (dC, dI)) (ci := 7) (v := .int (gMW_mov (sMW_thr u (bI (if a1 < (0 : Int32) then true else (if a1 ≤ (5 : Int32) then false else true : Bool) : Bool))))) (C := RX7) (T := TX7) (N := 30) hx hb hts iX7_told_X7 hown hK hP 0 rfl rfl 27 (by decide) (hts _ qX7_told_2) (fun _ h9 => h9) rfl dX7_told_96 ?_
                          refine lv_goto (tgt := 106) hx hb dX7_told_99 (by decide) ?_
                          exact hJ11 (gMW_mov (sMW_thr u (bI (if a1 < (0 : Int32) then true else (if a1 ≤ (5 : Int32) then false else true : Bool) : Bool)))) _ _ _ (by simp only [if_pos c12]) hP hS (lv_sub hl [0, 1] rfl)
                    · skip
                      refine lv_aload_n hx hb dX7_told_83 rfl (lv_at hl 0 rfl) ?_
                      refine va_get (D := (dC, dI)) (ci := 7) (v := .int (gMW_st (sMW_thr u (bI (if a1 < (0 : Int32) then true else (if a1 ≤ (5 : Int32) then false else true : Bool) : Bool))))) (C := RX7) (T := TX7) (N := 30) hx hb hts iX7_told_X7 hown hK hP 0 rfl rfl 24 (by decide) (hts _ qX7_told_3) (fun _ h9 => h9) rfl dX7_told_84 ?_
                      refine lv_goto (tgt := 106) hx hb dX7_told_87 (by decide) ?_
                      exact hJ9 (gMW_st (sMW_thr u (bI (if a1 < (0 : Int32) then true else (if a1 ≤ (5 : Int32) then false else true : Bool) : Bool)))) _ _ _ (by simp only [if_pos c10]) hP hS (lv_sub hl [0, 1] rfl)
                · skip
                  refine lv_aload_n hx hb dX7_told_71 rfl (lv_at hl 0 rfl) ?_
                  refine va_get (D := (dC, dI)) (ci := 7) (v := .int (gMW_want (sMW_thr u (bI (if a1 < (0 : Int32) then true else (if a1 ≤ (5 : Int32) then false else true : Bool) : Bool))))) (C := RX7) (T := TX7) (N := 30) hx hb hts iX7_told_X7 hown hK hP 0 rfl rfl 14 (by decide) (hts _ qX7_told_4) (fun _ h9 => h9) rfl dX7_told_72 ?_
                  refine lv_goto (tgt := 106) hx hb dX7_told_75 (by decide) ?_
                  exact hJ7 (gMW_want (sMW_thr u (bI (if a1 < (0 : Int32) then true else (if a1 ≤ (5 : Int32) then false else true : Bool) : Bool)))) _ _ _ (by simp only [if_pos c8]) hP hS (lv_sub hl [0, 1] rfl)
            · skip
              refine lv_aload_n hx hb dX7_told_51 rfl (lv_at hl 0 rfl) ?_
              refine va_get (D := (dC, dI)) (ci := 7) (v := .int (bI (gMW_on (sMW_thr u (bI (if a1 < (0 : Int32) then true else (if a1 ≤ (5 : Int32) then false else true : Bool) : Bool)))))) (C := RX7) (T := TX7) (N := 30) hx hb hts iX7_told_X7 hown hK hP 0 rfl rfl 12 (by decide) (hts _ qX7_told_5) (fun _ h9 => h9) rfl dX7_told_52 ?_
              refine jn_b (D := (dC, dI)) (cl := vwCl) (ws := (wM cI mO memA dskA rgA inA outA (sMW_thr u (bI (if a1 < (0 : Int32) then true else (if a1 ≤ (5 : Int32) then false else true : Bool) : Bool))))) (A := A) (H0 := s.heap) (nL := 2) 106 (if (bI (gMW_on (sMW_thr u (bI (if a1 < (0 : Int32) then true else (if a1 ≤ (5 : Int32) then false else true : Bool) : Bool))))) = (0 : Int32) then false else true : Bool) [(0, .ref mO), (1, .int a1)] [] (fun H locs ls hP hS hl => ?_) (fun hJ13 => ?_)
              · skip
                exact hJ5 (bI (if (bI (gMW_on (sMW_thr u (bI (if a1 < (0 : Int32) then true else (if a1 ≤ (5 : Int32) then false else true : Bool) : Bool))))) = (0 : Int32) then false else true : Bool)) _ _ _ (by simp only [if_pos c6]) hP hS (lv_sub hl [0, 1] rfl)
              · skip
                refine lv_if_eq (tgt := 62) hx hb dX7_told_55 (by decide) (fun c14 => ?_) (fun c14 => ?_)
                · skip
                  refine lv_iconst (v := 0) hx hb dX7_told_62 (by decide) ?_
                  refine lv_goto (tgt := 106) hx hb dX7_told_63 (by decide) ?_
                  exact hJ13 false _ _ _ (by simp only [if_pos c14]) hP hS (lv_sub hl [0, 1] rfl)
                · skip
                  refine lv_iconst (v := 1) hx hb dX7_told_58 (by decide) ?_
                  refine lv_goto (tgt := 106) hx hb dX7_told_59 (by decide) ?_
                  exact hJ13 true _ _ _ (by simp only [if_neg c14]) hP hS (lv_sub hl [0, 1] rfl)
        · skip
          refine lv_aload_n hx hb dX7_told_31 rfl (lv_at hl 0 rfl) ?_
          refine va_get (D := (dC, dI)) (ci := 7) (v := .int (bI (gMW_hlt (sMW_thr u (bI (if a1 < (0 : Int32) then true else (if a1 ≤ (5 : Int32) then false else true : Bool) : Bool)))))) (C := RX7) (T := TX7) (N := 30) hx hb hts iX7_told_X7 hown hK hP 0 rfl rfl 11 (by decide) (hts _ qX7_told_6) (fun _ h9 => h9) rfl dX7_told_32 ?_
          refine jn_b (D := (dC, dI)) (cl := vwCl) (ws := (wM cI mO memA dskA rgA inA outA (sMW_thr u (bI (if a1 < (0 : Int32) then true else (if a1 ≤ (5 : Int32) then false else true : Bool) : Bool))))) (A := A) (H0 := s.heap) (nL := 2) 106 (if (bI (gMW_hlt (sMW_thr u (bI (if a1 < (0 : Int32) then true else (if a1 ≤ (5 : Int32) then false else true : Bool) : Bool))))) = (0 : Int32) then false else true : Bool) [(0, .ref mO), (1, .int a1)] [] (fun H locs ls hP hS hl => ?_) (fun hJ15 => ?_)
          · skip
            exact hJ3 (bI (if (bI (gMW_hlt (sMW_thr u (bI (if a1 < (0 : Int32) then true else (if a1 ≤ (5 : Int32) then false else true : Bool) : Bool))))) = (0 : Int32) then false else true : Bool)) _ _ _ (by simp only [if_pos c4]) hP hS (lv_sub hl [0, 1] rfl)
          · skip
            refine lv_if_eq (tgt := 42) hx hb dX7_told_35 (by decide) (fun c16 => ?_) (fun c16 => ?_)
            · skip
              refine lv_iconst (v := 0) hx hb dX7_told_42 (by decide) ?_
              refine lv_goto (tgt := 106) hx hb dX7_told_43 (by decide) ?_
              exact hJ15 false _ _ _ (by simp only [if_pos c16]) hP hS (lv_sub hl [0, 1] rfl)
            · skip
              refine lv_iconst (v := 1) hx hb dX7_told_38 (by decide) ?_
              refine lv_goto (tgt := 106) hx hb dX7_told_39 (by decide) ?_
              exact hJ15 true _ _ _ (by simp only [if_neg c16]) hP hS (lv_sub hl [0, 1] rfl)
    · skip
      refine lv_iconst (v := 0) hx hb dX7_told_25 (by decide) ?_
      exact W.iret (v := 0) hx hb hr (fun t ht hW => ⟨⟨0, (sMW_thr u (bI (if a1 < (0 : Int32) then true else (if a1 ≤ (5 : Int32) then false else true : Bool) : Bool))), rfl, ⟨(by simp only [f_X7_told, if_neg c2]), (by simp only [f_X7_told, if_neg c2])⟩, by rw [ht]; exact hP, va_K.moved hW.alike hK, hD⟩, hS.F ht⟩) hS.2.2 dX7_told_26
  · skip
    refine lv_if_lt (tgt := 10) hx hb dX7_told_2 (by decide) (fun c17 => ?_) (fun c17 => ?_)
    · skip
      refine lv_iconst (v := 1) hx hb dX7_told_10 (by decide) ?_
      refine lv_goto (tgt := 15) hx hb dX7_told_11 (by decide) ?_
      exact hJ1 true _ _ _ (by simp only [if_pos c17]) hP hS (lv_sub hl [0, 1] rfl)
    · skip
      refine lv_iload_n hx hb dX7_told_5 rfl (lv_at hl 1 rfl) ?_
      refine lv_iconst (v := 5) hx hb dX7_told_6 (by decide) ?_
      refine jn_b (D := (dC, dI)) (cl := vwCl) (ws := (wM cI mO memA dskA rgA inA outA u)) (A := A) (H0 := s.heap) (nL := 2) 15 (if a1 ≤ (5 : Int32) then false else true : Bool) [(0, .ref mO), (1, .int a1)] [.ref mO] (fun H locs ls hP hS hl => ?_) (fun hJ18 => ?_)
      · skip
        exact hJ1 (if a1 ≤ (5 : Int32) then false else true : Bool) _ _ _ (by simp only [if_neg c17]) hP hS (lv_sub hl [0, 1] rfl)
      · skip
        refine lv_icmp_le (tgt := 14) hx hb dX7_told_7 (by decide) (fun c19 => ?_) (fun c19 => ?_)
        · skip
          refine lv_iconst (v := 0) hx hb dX7_told_14 (by decide) ?_
          exact hJ18 false _ _ _ (by simp only [if_pos c19]) hP hS (lv_sub hl [0, 1] rfl)
        · skip
          refine lv_iconst (v := 1) hx hb dX7_told_10 (by decide) ?_
          refine lv_goto (tgt := 15) hx hb dX7_told_11 (by decide) ?_
          exact hJ18 true _ _ _ (by simp only [if_neg c19]) hP hS (lv_sub hl [0, 1] rfl)
