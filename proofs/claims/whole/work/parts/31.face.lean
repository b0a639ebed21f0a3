def f_X6_write (u : PW) (a1 : Int32) (a2 : Int32) : Option (Int32 × PW) := 
  if (bI (f_X6_isPlace a1)) = (0 : Int32) then none
  else 
    if (bI (f_X6_isByte a2)) = (0 : Int32) then none
    else some ((f_X5_exchange (gPW_m u) a1 a2).1, (sPW_m u (f_X5_exchange (gPW_m u) a1 a2).2))
theorem qX6_write_0 : Cond.fieldLink RX6 10 "DiskMachine" "memory" "LDiskMachine$Store;" ∈ wsX6_write := by decide +kernel
theorem qX6_write_1 : Cond.classLink RX6 51 "java/lang/IllegalArgumentException" ∈ wsX6_write := by decide +kernel
theorem qX6_write_2 : Cond.initialized "java/lang/IllegalArgumentException" ∈ wsX6_write := by decide +kernel
theorem iX6_write_X6 : ∀ w ∈ wsX60, w ∈ wsX6_write := by decide +kernel
set_option maxHeartbeats 4000000 in
set_option maxRecDepth 100000 in
theorem k_X6_write (l : Launch) (hl0 : l.stackTraces = false) (dC : Nat → ClassId) (dI : Nat → Nat → Nat) (cI : ClassId) (xO pO mS mA dS dA cO iA oA kO fO aO rA : Nat) (sz : Nat) (u : PW) (a1 : Int32) (a2 : Int32) : vx_Met l yX6_write wsX6_write ({ frames := 6, cells := 1, slots := 6, locals := 81 }) (va_Pc [.ref xO, .int a1, .int a2] (wBX dC dI [(cI, .int)] sz (wX cI xO pO mS mA dS dA cO iA oA kO fO aO rA u))) (va_Qi (fun (r : Int32) (u' : PW) => some (r, u') = (f_X6_write u a1 a2)) (fun u' => wE dC dI [(cI, .int)] (va_A (wX cI xO pO mS mA dS dA cO iA oA kO fO aO rA u) sz) (wX cI xO pO mS mA dS dA cO iA oA kO fO aO rA u')) (va_A (wX cI xO pO mS mA dS dA cO iA oA kO fO aO rA u) sz)) (vx_X (fun u' : PW => (f_X6_write u a1 a2) = none ∧ u' = u) (fun (E : String) (u' : PW) (t : State) => E = "java/lang/IllegalArgumentException" ∧ wE dC dI [(cI, .int)] (va_A (wX cI xO pO mS mA dS dA cO iA oA kO fO aO rA u) sz) (wX cI xO pO mS mA dS dA cO iA oA kO fO aO rA u') t) (va_A (wX cI xO pO mS mA dS dA cO iA oA kO fO aO rA u) sz)) 1 6 (va_A (wX cI xO pO mS mA dS dA cO iA oA kO fO aO rA u) sz) := by
  refine vx_ofW (cc := cX6_write) (maxL := 3) (ret := (some .int)) (by decide) rfl ?_
  intro p e s m args below meth c s₁ B hml htab hv
  obtain ⟨rfl, hsz, hP, hK, hD0, hT⟩ := hv
  have hx := B.exec
  have hb := B.bytes
  have hr := B.returns
  have hts := atoms_spec (ws := wsX6_write) B.pre
  have hown : s.vm.findClass RX6 = some m.cls := findClass_of_methodNamed B.named
  have hlocks := B.notSynchronized
  subst hsz
  have hD := hD0.self (sz := s.heap.size)
  generalize hAe : va_A (wX cI xO pO mS mA dS dA cO iA oA kO fO aO rA u) s.heap.size = A at hD hT ⊢
  have hA : ∀ q : Nat, s.heap.size ≤ q → A q := fun q h => by rw [← hAe]; exact Or.inr h
  have hS : va_S A s.heap s.heap [] := va_S.rf
  have hP : va_P (dC, dI) vwCl (wX cI xO pO mS mA dS dA cO iA oA kO fO aO rA u) s.heap := hP
  clear hAe hD0
  have hl := lv_entry ([.ref xO, .int a1, .int a2]) (n := 3) (Nat.le_of_ble_eq_true rfl)
  rw [lg_entry_eq]
  generalize (lg_sl ([.ref xO, .int a1, .int a2]) ++ List.replicate (3 - (lg_sl ([.ref xO, .int a1, .int a2])).length) Slot.unset).toArray = ls at hl ⊢
  have hl : lv_has ls 3 [(0, .ref xO), (1, .int a1), (2, .int a2)] := hl
  refine jn_H hP hS (fun H locs hP hS => ?_)
  refine lv_iload_n hx hb dX6_write_0 rfl (lv_at hl 1 rfl) ?_
  have hPc := hP.sub (ws' := ([] : va_W)) [] rfl
  have hDc := hD.sub (ws' := ([] : va_W)) [] (by decide) rfl
  have hFc := va_free (wc := ([] : va_W)) hD hS hA [] rfl
  have hKc := hK.sub (tys' := []) [] rfl
  refine va_calli (va_runS (As := [.int a1]) (rest := []) ⟨hx, hb, hml, hown, hts⟩ (k_X6_isPlace l dC dI H.size a1) (va_cwS 1 hts gX6_write_X6_isPlace rfl rfl rfl (by decide +kernel) ⟨Nat.le_of_ble_eq_true rfl, Nat.le_of_ble_eq_true rfl⟩) ⟨fun a U g mk q => by obtain ⟨q0, q1, qP, qK, qD⟩ := q; exact ⟨q0, q1, qP, va_K.moved (u := U) (U := U.calling g mk a) (Vm.Alike.refl U.vm) qK, qD⟩, fun U hU hW => ⟨rfl, by rw [hU], by rw [hU]; exact hPc, va_K.moved hW.alike hKc, hDc.weaken (fun _ _ _ _ => trivial)⟩⟩ rfl rfl hl.1 rfl (lv_room (Nat.le_of_ble_eq_true rfl)) dX6_write_1 ⟨Nat.le_of_ble_eq_true rfl, Nat.le_of_ble_eq_true rfl⟩) hS (fun q _ h => hFc q h) hFc (fun r9 u9 t H1 locs ht hvm hw hB hz1 hk1 hS => ?_)
  obtain ⟨hw1, hw2⟩ := hw
  have hw2 := hw2.symm
  subst hw1 hw2
  obtain ⟨hP1, hK1, hD1⟩ := hB
  rw [ht] at hP1
  obtain ⟨hP, hD⟩ := jN_any (ws := (wX cI xO pO mS mA dS dA cO iA oA kO fO aO rA u)) hP hD hk1
  clear hPc hDc hKc hFc hz1 hk1 hP1 hK1 hD1 ht hvm
  generalize H1 = H at hP hS ⊢
  refine lv_if_eq (tgt := 14) hx hb dX6_write_4 (by decide) (fun c1 => ?_) (fun c1 => ?_)
  · skip
    exact vx_throw0 (own := RX6) (cls := "java/lang/IllegalArgumentException") (names := ["java/lang/RuntimeException", "java/lang/Exception"]) (A := A) hx hb hl0 hown (by decide +kernel) (by decide +kernel) (hts _ qX6_write_1) (hts _ qX6_write_2) (vx_hat (L := vx_at0 RX6 53 "java/lang/IllegalArgumentException" ["java/lang/RuntimeException", "java/lang/Exception"]) (B := tBad) (fun w hw => hts w (List.mem_cons_of_mem _ (List.mem_append_right _ hw))) (by decide +kernel) (fun w hw => va_Nw.use (tBad_tab w hw) (hT.2.2 w hw))) (by decide +kernel) hT.1 hT.2.1 hS (hl.1.trans hml.symm) dX6_write_14 dX6_write_17 dX6_write_18 dX6_write_21 (fun x hx9 => (htab x hx9).elim) (Nat.le_of_ble_eq_true rfl) (Nat.le_of_ble_eq_true rfl) (Nat.le_of_ble_eq_true rfl) (Nat.le_of_ble_eq_true rfl) hlocks (fun t ha hz hs => ⟨u, ⟨(by simp only [f_X6_write, if_pos c1]), rfl⟩, ⟨rfl, (tx_fin hP hK hD hS ha hz hs).1⟩, (tx_fin hP hK hD hS ha hz hs).2⟩) hS.2.2 (Nat.le_of_ble_eq_true rfl) (Nat.le_of_ble_eq_true rfl)
  · skip
    refine lv_iload_n hx hb dX6_write_7 rfl (lv_at hl 2 rfl) ?_
    have hPc := hP.sub (ws' := ([] : va_W)) [] rfl
    have hDc := hD.sub (ws' := ([] : va_W)) [] (by decide) rfl
    have hFc := va_free (wc := ([] : va_W)) hD hS hA [] rfl
    have hKc := hK.sub (tys' := []) [] rfl
    refine va_calli (va_runS (As := [.int a2]) (rest := []) ⟨hx, hb, hml, hown, hts⟩ (k_X6_isByte l dC dI H.size a2) (va_cwS 1 hts gX6_write_X6_isByte rfl rfl rfl (by decide +kernel) ⟨Nat.le_of_ble_eq_true rfl, Nat.le_of_ble_eq_true rfl⟩) ⟨fun a U g mk q => by obtain ⟨q0, q1, qP, qK, qD⟩ := q; exact ⟨q0, q1, qP, va_K.moved (u := U) (U := U.calling g mk a) (Vm.Alike.refl U.vm) qK, qD⟩, fun U hU hW => ⟨rfl, by rw [hU], by rw [hU]; exact hPc, va_K.moved hW.alike hKc, hDc.weaken (fun _ _ _ _ => trivial)⟩⟩ rfl rfl hl.1 rfl (lv_room (Nat.le_of_ble_eq_true rfl)) dX6_write_8 ⟨Nat.le_of_ble_eq_true rfl, Nat.le_of_ble_eq_true rfl⟩) hS (fun q _ h => hFc q h) hFc (fun r9 u9 t H1 locs ht hvm hw hB hz1 hk1 hS => ?_)
    obtain ⟨hw1, hw2⟩ := hw
    have hw2 := hw2.symm
    subst hw1 hw2
    obtain ⟨hP1, hK1, hD1⟩ := hB
    rw [ht] at hP1
    obtain ⟨hP, hD⟩ := jN_any (ws := (wX cI xO pO mS mA dS dA cO iA oA kO fO aO rA u)) hP hD hk1
    clear hPc hDc hKc hFc hz1 hk1 hP1 hK1 hD1 ht hvm
    generalize H1 = H at hP hS ⊢
    refine lv_if_ne (tgt := 22) hx hb dX6_write_11 (by decide) (fun c2 => ?_) (fun c2 => ?_)
    · skip
      refine lv_aload_n hx hb dX6_write_22 rfl (lv_at hl 0 rfl) ?_
      refine va_get (D := (dC, dI)) (ci := 6) (v := .ref mS) (C := RX6) (T := TX6) (N := 5) hx hb hts iX6_write_X6 hown hK hP 0 rfl rfl 0 (by decide) (hts _ qX6_write_0) (fun _ h9 => h9) rfl dX6_write_23 ?_
      refine lv_iload_n hx hb dX6_write_26 rfl (lv_at hl 1 rfl) ?_
      refine lv_iload_n hx hb dX6_write_27 rfl (lv_at hl 2 rfl) ?_
      obtain ⟨hPc, hDc, hFc⟩ := xX_S_mS hP hD hS hA
      have hKc := hK.sub (tys' := [(cI, .int)]) [0] rfl
      refine va_calli (va_runV (As := [.int a1, .int a2]) (rest := []) ⟨hx, hb, hml, hown, hts⟩ (k_X5_exchange l dC dI cI mS mA H.size (gPW_m u) a1 a2) (cwV 2 hts gX6_write_X5_exchange rfl rfl rfl (by decide +kernel) ⟨Nat.le_of_ble_eq_true rfl, Nat.le_of_ble_eq_true rfl⟩) ⟨fun a U g mk q => by obtain ⟨q0, q1, qP, qK, qD⟩ := q; exact ⟨q0, q1, qP, va_K.moved (u := U) (U := U.calling g mk a) (Vm.Alike.refl U.vm) qK, qD⟩, va_recv hKc hPc (ci := 5) (q0 := 0) rfl rfl, fun U hU hW => ⟨rfl, by rw [hU], by rw [hU]; exact hPc, va_K.moved hW.alike hKc, hDc.weaken (fun _ _ _ _ => trivial)⟩⟩ rfl rfl hl.1 rfl (lv_room (Nat.le_of_ble_eq_true rfl)) dX6_write_28 ⟨Nat.le_of_ble_eq_true rfl, Nat.le_of_ble_eq_true rfl⟩) hS (fun q _ h => hFc q h) hFc (fun r9 u9 t H1 locs ht hvm hw hB hz1 hk1 hS => ?_)
      obtain ⟨rfl, rfl⟩ := hw
      obtain ⟨hP1, hK1, hD1⟩ := hB
      rw [ht] at hP1
      obtain ⟨hP, hD⟩ := jX_S_mS hP hD hk1 hFc hP1 hD1
      clear hPc hDc hKc hFc hz1 hk1 hP1 hK1 hD1 ht hvm
      generalize H1 = H at hP hS ⊢
      refine vx_ret ?_
      refine W.widen (k := 1) (n := 6) (Nat.le_of_ble_eq_true rfl) (Nat.le_of_ble_eq_true rfl) ?_
      exact W.iret (v := (f_X5_exchange (gPW_m u) a1 a2).1) hx hb hr (fun t ht hW => ⟨⟨(f_X5_exchange (gPW_m u) a1 a2).1, (sPW_m u (f_X5_exchange (gPW_m u) a1 a2).2), rfl, (by simp only [f_X6_write, if_neg c1, if_neg c2]), by rw [ht]; exact hP, va_K.moved hW.alike hK, hD⟩, hS.F ht⟩) hS.2.2 dX6_write_31
    · skip
      exact vx_throw0 (own := RX6) (cls := "java/lang/IllegalArgumentException") (names := ["java/lang/RuntimeException", "java/lang/Exception"]) (A := A) hx hb hl0 hown (by decide +kernel) (by decide +kernel) (hts _ qX6_write_1) (hts _ qX6_write_2) (vx_hat (L := vx_at0 RX6 53 "java/lang/IllegalArgumentException" ["java/lang/RuntimeException", "java/lang/Exception"]) (B := tBad) (fun w hw => hts w (List.mem_cons_of_mem _ (List.mem_append_right _ hw))) (by decide +kernel) (fun w hw => va_Nw.use (tBad_tab w hw) (hT.2.2 w hw))) (by decide +kernel) hT.1 hT.2.1 hS (hl.1.trans hml.symm) dX6_write_14 dX6_write_17 dX6_write_18 dX6_write_21 (fun x hx9 => (htab x hx9).elim) (Nat.le_of_ble_eq_true rfl) (Nat.le_of_ble_eq_true rfl) (Nat.le_of_ble_eq_true rfl) (Nat.le_of_ble_eq_true rfl) hlocks (fun t ha hz hs => ⟨u, ⟨(by simp only [f_X6_write, if_neg c1, if_pos c2]), rfl⟩, ⟨rfl, (tx_fin hP hK hD hS ha hz hs).1⟩, (tx_fin hP hK hD hS ha hz hs).2⟩) hS.2.2 (Nat.le_of_ble_eq_true rfl) (Nat.le_of_ble_eq_true rfl)

def f_X6_read (u : PW) (a1 : Int32) : Option Int32 := 
  if (bI (f_X6_isPlace a1)) = (0 : Int32) then none
  else some (f_X5_byteAt (gPW_m u) a1)
theorem qX6_read_0 : Cond.fieldLink RX6 10 "DiskMachine" "memory" "LDiskMachine$Store;" ∈ wsX6_read := by decide +kernel
theorem qX6_read_1 : Cond.classLink RX6 51 "java/lang/IllegalArgumentException" ∈ wsX6_read := by decide +kernel
theorem qX6_read_2 : Cond.initialized "java/lang/IllegalArgumentException" ∈ wsX6_read := by decide +kernel
theorem iX6_read_X6 : ∀ w ∈ wsX60, w ∈ wsX6_read := by decide +kernel
set_option maxHeartbeats 4000000 in
set_option maxRecDepth 100000 in
theorem k_X6_read (l : Launch) (hl0 : l.stackTraces = false) (dC : Nat → ClassId) (dI : Nat → Nat → Nat) (cI : ClassId) (xO pO mS mA dS dA cO iA oA kO fO aO rA : Nat) (sz : Nat) (u : PW) (a1 : Int32) : vx_Met l yX6_read wsX6_read ({ frames := 6, cells := 1, slots := 6, locals := 81 }) (va_Pc [.ref xO, .int a1] (wBX dC dI [(cI, .int)] sz (wX cI xO pO mS mA dS dA cO iA oA kO fO aO rA u))) (va_Qi (fun (r : Int32) (u' : PW) => some r = (f_X6_read u a1) ∧ u' = u) (fun u' => wE dC dI [(cI, .int)] (va_A (wX cI xO pO mS mA dS dA cO iA oA kO fO aO rA u) sz) (wX cI xO pO mS mA dS dA cO iA oA kO fO aO rA u')) (va_A (wX cI xO pO mS mA dS dA cO iA oA kO fO aO rA u) sz)) (vx_X (fun u' : PW => (f_X6_read u a1) = none ∧ u' = u) (fun (E : String) (u' : PW) (t : State) => E = "java/lang/IllegalArgumentException" ∧ wE dC dI [(cI, .int)] (va_A (wX cI xO pO mS mA dS dA cO iA oA kO fO aO rA u) sz) (wX cI xO pO mS mA dS dA cO iA oA kO fO aO rA u') t) (va_A (wX cI xO pO mS mA dS dA cO iA oA kO fO aO rA u) sz)) 1 6 (va_A (wX cI xO pO mS mA dS dA cO iA oA kO fO aO rA u) sz) := by
  refine vx_ofW (cc := cX6_read) (maxL := 2) (ret := (some .int)) (by decide) rfl ?_
  intro p e s m args below meth c s₁ B hml htab hv
  obtain ⟨rfl, hsz, hP, hK, hD0, hT⟩ := hv
  have hx := B.exec
  have hb := B.bytes
  have hr := B.returns
  have hts := atoms_spec (ws := wsX6_read) B.pre
  have hown : s.vm.findClass RX6 = some m.cls := findClass_of_methodNamed B.named
  have hlocks := B.notSynchronized
  subst hsz
  have hD := hD0.self (sz := s.heap.size)
  generalize hAe : va_A (wX cI xO pO mS mA dS dA cO iA oA kO fO aO rA u) s.heap.size = A at hD hT ⊢
  have hA : ∀ q : Nat, s.heap.size ≤ q → A q := fun q h => by rw [← hAe]; exact Or.inr h
  have hS : va_S A s.heap s.heap [] := va_S.rf
  have hP : va_P (dC, dI) vwCl (wX cI xO pO mS mA dS dA cO iA oA kO fO aO rA u) s.heap := hP
  clear hAe hD0
  have hl := lv_entry ([.ref xO, .int a1]) (n := 2) (Nat.le_of_ble_eq_true rfl)
  rw [lg_entry_eq]
  generalize (lg_sl ([.ref xO, .int a1]) ++ List.replicate (2 - (lg_sl ([.ref xO, .int a1])).length) Slot.unset).toArray = ls at hl ⊢
  have hl : lv_has ls 2 [(0, .ref xO), (1, .int a1)] := hl
  refine jn_H hP hS (fun H locs hP hS => ?_)
  refine lv_iload_n hx hb dX6_read_0 rfl (lv_at hl 1 rfl) ?_
  have hPc := hP.sub (ws' := ([] : va_W)) [] rfl
  have hDc := hD.sub (ws' := ([] : va_W)) [] (by decide) rfl
  have hFc := va_free (wc := ([] : va_W)) hD hS hA [] rfl
  have hKc := hK.sub (tys' := []) [] rfl
  refine va_calli (va_runS (As := [.int a1]) (rest := []) ⟨hx, hb, hml, hown, hts⟩ (k_X6_isPlace l dC dI H.size a1) (va_cwS 1 hts gX6_read_X6_isPlace rfl rfl rfl (by decide +kernel) ⟨Nat.le_of_ble_eq_true rfl, Nat.le_of_ble_eq_true rfl⟩) ⟨fun a U g mk q => by obtain ⟨q0, q1, qP, qK, qD⟩ := q; exact ⟨q0, q1, qP, va_K.moved (u := U) (U := U.calling g mk a) (Vm.Alike.refl U.vm) qK, qD⟩, fun U hU hW => ⟨rfl, by rw [hU], by rw [hU]; exact hPc, va_K.moved hW.alike hKc, hDc.weaken (fun _ _ _ _ => trivial)⟩⟩ rfl rfl hl.1 rfl (lv_room (Nat.le_of_ble_eq_true rfl)) dX6_read_1 ⟨Nat.le_of_ble_eq_true rfl, Nat.le_of_ble_eq_true rfl⟩) hS (fun q _ h => hFc q h) hFc (fun r9 u9 t H1 locs ht hvm hw hB hz1 hk1 hS => ?_)
  obtain ⟨hw1, hw2⟩ := hw
  have hw2 := hw2.symm
  subst hw1 hw2
  obtain ⟨hP1, hK1, hD1⟩ := hB
  rw [ht] at hP1
  obtain ⟨hP, hD⟩ := jN_any (ws := (wX cI xO pO mS mA dS dA cO iA oA kO fO aO rA u)) hP hD hk1
  clear hPc hDc hKc hFc hz1 hk1 hP1 hK1 hD1 ht hvm
  generalize H1 = H at hP hS ⊢
  refine lv_if_ne (tgt := 15) hx hb dX6_read_4 (by decide) (fun c1 => ?_) (fun c1 => ?_)
  · skip
    refine lv_aload_n hx hb dX6_read_15 rfl (lv_at hl 0 rfl) ?_
    refine va_get (D := (dC, dI)) (ci := 6) (v := .ref mS) (C := RX6) (T := TX6) (N := 5) hx hb hts iX6_read_X6 hown hK hP 0 rfl rfl 0 (by decide) (hts _ qX6_read_0) (fun _ h9 => h9) rfl dX6_read_16 ?_
    refine lv_iload_n hx hb dX6_read_19 rfl (lv_at hl 1 rfl) ?_
    obtain ⟨hPc, hDc, hFc⟩ := xX_S_mS hP hD hS hA
    have hKc := hK.sub (tys' := [(cI, .int)]) [0] rfl
    refine va_calli (va_runV (As := [.int a1]) (rest := []) ⟨hx, hb, hml, hown, hts⟩ (k_X5_byteAt l dC dI cI mS mA H.size (gPW_m u) a1) (cwV 1 hts gX6_read_X5_byteAt rfl rfl rfl (by decide +kernel) ⟨Nat.le_of_ble_eq_true rfl, Nat.le_of_ble_eq_true rfl⟩) ⟨fun a U g mk q => by obtain ⟨q0, q1, qP, qK, qD⟩ := q; exact ⟨q0, q1, qP, va_K.moved (u := U) (U := U.calling g mk a) (Vm.Alike.refl U.vm) qK, qD⟩, va_recv hKc hPc (ci := 5) (q0 := 0) rfl rfl, fun U hU hW => ⟨rfl, by rw [hU], by rw [hU]; exact hPc, va_K.moved hW.alike hKc, hDc.weaken (fun _ _ _ _ => trivial)⟩⟩ rfl rfl hl.1 rfl (lv_room (Nat.le_of_ble_eq_true rfl)) dX6_read_20 ⟨Nat.le_of_ble_eq_true rfl, Nat.le_of_ble_eq_true rfl⟩) hS (fun q _ h => hFc q h) hFc (fun r9 u9 t H1 locs ht hvm hw hB hz1 hk1 hS => ?_)
    obtain ⟨hw1, hw2⟩ := hw
    have hw2 := hw2.symm
    subst hw1 hw2
    obtain ⟨hP1, hK1, hD1⟩ := hB
    rw [ht] at hP1
    obtain ⟨hP, hD⟩ := jX_S_mS0 hP hD hk1 hFc hP1 hD1
    clear hPc hDc hKc hFc hz1 hk1 hP1 hK1 hD1 ht hvm
    generalize H1 = H at hP hS ⊢
    refine vx_ret ?_
    refine W.widen (k := 1) (n := 6) (Nat.le_of_ble_eq_true rfl) (Nat.le_of_ble_eq_true rfl) ?_
    exact W.iret (v := (f_X5_byteAt (gPW_m u) a1)) hx hb hr (fun t ht hW => ⟨⟨(f_X5_byteAt (gPW_m u) a1), u, rfl, ⟨(by simp only [f_X6_read, if_neg c1]), rfl⟩, by rw [ht]; exact hP, va_K.moved hW.alike hK, hD⟩, hS.F ht⟩) hS.2.2 dX6_read_23
  · skip
    exact vx_throw0 (own := RX6) (cls := "java/lang/IllegalArgumentException") (names := ["java/lang/RuntimeException", "java/lang/Exception"]) (A := A) hx hb hl0 hown (by decide +kernel) (by decide +kernel) (hts _ qX6_read_1) (hts _ qX6_read_2) (vx_hat (L := vx_at0 RX6 53 "java/lang/IllegalArgumentException" ["java/lang/RuntimeException", "java/lang/Exception"]) (B := tBad) (fun w hw => hts w (List.mem_cons_of_mem _ (List.mem_append_right _ hw))) (by decide +kernel) (fun w hw => va_Nw.use (tBad_tab w hw) (hT.2.2 w hw))) (by decide +kernel) hT.1 hT.2.1 hS (hl.1.trans hml.symm) dX6_read_7 dX6_read_10 dX6_read_11 dX6_read_14 (fun x hx9 => (htab x hx9).elim) (Nat.le_of_ble_eq_true rfl) (Nat.le_of_ble_eq_true rfl) (Nat.le_of_ble_eq_true rfl) (Nat.le_of_ble_eq_true rfl) hlocks (fun t ha hz hs => ⟨u, ⟨(by simp only [f_X6_read, if_pos c1]), rfl⟩, ⟨rfl, (tx_fin hP hK hD hS ha hz hs).1⟩, (tx_fin hP hK hD hS ha hz hs).2⟩) hS.2.2 (Nat.le_of_ble_eq_true rfl) (Nat.le_of_ble_eq_true rfl)

def f_X6_writeDisk (u : PW) (a1 : Int32) (a2 : Int32) : Option (Int32 × PW) := 
  if (bI (f_X6_isPlace a1)) = (0 : Int32) then none
  else 
    if (bI (f_X6_isByte a2)) = (0 : Int32) then none
    else some ((f_X5_exchange (gPW_d u) a1 a2).1, (sPW_d u (f_X5_exchange (gPW_d u) a1 a2).2))
theorem qX6_writeDisk_0 : Cond.fieldLink RX6 16 "DiskMachine" "disk" "LDiskMachine$Store;" ∈ wsX6_writeDisk := by decide +kernel
theorem qX6_writeDisk_1 : Cond.classLink RX6 51 "java/lang/IllegalArgumentException" ∈ wsX6_writeDisk := by decide +kernel
theorem qX6_writeDisk_2 : Cond.initialized "java/lang/IllegalArgumentException" ∈ wsX6_writeDisk := by decide +kernel
theorem iX6_writeDisk_X6 : ∀ w ∈ wsX60, w ∈ wsX6_writeDisk := by decide +kernel
set_option maxHeartbeats 4000000 in
set_option maxRecDepth 100000 in
theorem k_X6_writeDisk (l : Launch) (hl0 : l.stackTraces = false) (dC : Nat → ClassId) (dI : Nat → Nat → Nat) (cI : ClassId) (xO pO mS mA dS dA cO iA oA kO fO aO rA : Nat) (sz : Nat) (u : PW) (a1 : Int32) (a2 : Int32) : vx_Met l yX6_writeDisk wsX6_writeDisk ({ frames := 6, cells := 1, slots := 6, locals := 81 }) (va_Pc [.ref xO, .int a1, .int a2] (wBX dC dI [(cI, .int)] sz (wX cI xO pO mS mA dS dA cO iA oA kO fO aO rA u))) (va_Qi (fun (r : Int32) (u' : PW) => some (r, u') = (f_X6_writeDisk u a1 a2)) (fun u' => wE dC dI [(cI, .int)] (va_A (wX cI xO pO mS mA dS dA cO iA oA kO fO aO rA u) sz) (wX cI xO pO mS mA dS dA cO iA oA kO fO aO rA u')) (va_A (wX cI xO pO mS mA dS dA cO iA oA kO fO aO rA u) sz)) (vx_X (fun u' : PW => (f_X6_writeDisk u a1 a2) = none ∧ u' = u) (fun (E : String) (u' : PW) (t : State) => E = "java/lang/IllegalArgumentException" ∧ wE dC dI [(cI, .int)] (va_A (wX cI xO pO mS mA dS dA cO iA oA kO fO aO rA u) sz) (wX cI xO pO mS mA dS dA cO iA oA kO fO aO rA u') t) (va_A (wX cI xO pO mS mA dS dA cO iA oA kO fO aO rA u) sz)) 1 6 (va_A (wX cI xO pO mS mA dS dA cO iA oA kO fO aO rA u) sz) := by
  refine vx_ofW (cc := cX6_writeDisk) (maxL := 3) (ret := (some .int)) (by decide) rfl ?_
  intro p e s m args below meth c s₁ B hml htab hv
  obtain ⟨rfl, hsz, hP, hK, hD0, hT⟩ := hv
  have hx := B.exec
  have hb := B.bytes
  have hr := B.returns
  have hts := atoms_spec (ws := wsX6_writeDisk) B.pre
  have hown : s.vm.findClass RX6 = some m.cls := findClass_of_methodNamed B.named
  have hlocks := B.notSynchronized
  subst hsz
  have hD := hD0.self (sz := s.heap.size)
  generalize hAe : va_A (wX cI xO pO mS mA dS dA cO iA oA kO fO aO rA u) s.heap.size = A at hD hT ⊢
  have hA : ∀ q : Nat, s.heap.size ≤ q → A q := fun q h => by rw [← hAe]; exact Or.inr h
  have hS : va_S A s.heap s.heap [] := va_S.rf
  have hP : va_P (dC, dI) vwCl (wX cI xO pO mS mA dS dA cO iA oA kO fO aO rA u) s.heap := hP
  clear hAe hD0
  have hl := lv_entry ([.ref xO, .int a1, .int a2]) (n := 3) (Nat.le_of_ble_eq_true rfl)
  rw [lg_entry_eq]
  generalize (lg_sl ([.ref xO, .int a1, .int a2]) ++ List.replicate (3 - (lg_sl ([.ref xO, .int a1, .int a2])).length) Slot.unset).toArray = ls at hl ⊢
  have hl : lv_has ls 3 [(0, .ref xO), (1, .int a1), (2, .int a2)] := hl
  refine jn_H hP hS (fun H locs hP hS => ?_)
  refine lv_iload_n hx hb dX6_writeDisk_0 rfl (lv_at hl 1 rfl) ?_
  have hPc := hP.sub (ws' := ([] : va_W)) [] rfl
  have hDc := hD.sub (ws' := ([] : va_W)) [] (by decide) rfl
  have hFc := va_free (wc := ([] : va_W)) hD hS hA [] rfl
  have hKc := hK.sub (tys' := []) [] rfl
  refine va_calli (va_runS (As := [.int a1]) (rest := []) ⟨hx, hb, hml, hown, hts⟩ (k_X6_isPlace l dC dI H.size a1) (va_cwS 1 hts gX6_writeDisk_X6_isPlace rfl rfl rfl (by decide +kernel) ⟨Nat.le_of_ble_eq_true rfl, Nat.le_of_ble_eq_true rfl⟩) ⟨fun a U g mk q => by obtain ⟨q0, q1, qP, qK, qD⟩ := q; exact ⟨q0, q1, qP, va_K.moved (u := U) (U := U.calling g mk a) (Vm.Alike.refl U.vm) qK, qD⟩, fun U hU hW => ⟨rfl, by rw [hU], by rw [hU]; exact hPc, va_K.moved hW.alike hKc, hDc.weaken (fun _ _ _ _ => trivial)⟩⟩ rfl rfl hl.1 rfl (lv_room (Nat.le_of_ble_eq_true rfl)) dX6_writeDisk_1 ⟨Nat.le_of_ble_eq_true rfl, Nat.le_of_ble_eq_true rfl⟩) hS (fun q _ h => hFc q h) hFc (fun r9 u9 t H1 locs ht hvm hw hB hz1 hk1 hS => ?_)
  obtain ⟨hw1, hw2⟩ := hw
  have hw2 := hw2.symm
  subst hw1 hw2
  obtain ⟨hP1, hK1, hD1⟩ := hB
  rw [ht] at hP1
  obtain ⟨hP, hD⟩ := jN_any (ws := (wX cI xO pO mS mA dS dA cO iA oA kO fO aO rA u)) hP hD hk1
  clear hPc hDc hKc hFc hz1 hk1 hP1 hK1 hD1 ht hvm
  generalize H1 = H at hP hS ⊢
  refine lv_if_eq (tgt := 14) hx hb dX6_writeDisk_4 (by decide) (fun c1 => ?_) (fun c1 => ?_)
  · skip
    exact vx_throw0 (own := RX6) (cls := "java/lang/IllegalArgumentException") (names := ["java/lang/RuntimeException", "java/lang/Exception"]) (A := A) hx hb hl0 hown (by decide +kernel) (by decide +kernel) (hts _ qX6_writeDisk_1) (hts _ qX6_writeDisk_2) (vx_hat (L := vx_at0 RX6 53 "java/lang/IllegalArgumentException" ["java/lang/RuntimeException", "java/lang/Exception"]) (B := tBad) (fun w hw => hts w (List.mem_cons_of_mem _ (List.mem_append_right _ hw))) (by decide +kernel) (fun w hw => va_Nw.use (tBad_tab w hw) (hT.2.2 w hw))) (by decide +kernel) hT.1 hT.2.1 hS (hl.1.trans hml.symm) dX6_writeDisk_14 dX6_writeDisk_17 dX6_writeDisk_18 dX6_writeDisk_21 (fun x hx9 => (htab x hx9).elim) (Nat.le_of_ble_eq_true rfl) (Nat.le_of_ble_eq_true rfl) (Nat.le_of_ble_eq_true rfl) (Nat.le_of_ble_eq_true rfl) hlocks (fun t ha hz hs => ⟨u, ⟨(by simp only [f_X6_writeDisk, if_pos c1]), rfl⟩, ⟨rfl, (tx_fin hP hK hD hS ha hz hs).1⟩, (tx_fin hP hK hD hS ha hz hs).2⟩) hS.2.2 (Nat.le_of_ble_eq_true rfl) (Nat.le_of_ble_eq_true rfl)
  · skip
    refine lv_iload_n hx hb dX6_writeDisk_7 rfl (lv_at hl 2 rfl) ?_
    have hPc := hP.sub (ws' := ([] : va_W)) [] rfl
    have hDc := hD.sub (ws' := ([] : va_W)) [] (by decide) rfl
    have hFc := va_free (wc := ([] : va_W)) hD hS hA [] rfl
    have hKc := hK.sub (tys' := []) [] rfl
    refine va_calli (va_runS (As := [.int a2]) (rest := []) ⟨hx, hb, hml, hown, hts⟩ (k_X6_isByte l dC dI H.size a2) (va_cwS 1 hts gX6_writeDisk_X6_isByte rfl rfl rfl (by decide +kernel) ⟨Nat.le_of_ble_eq_true rfl, Nat.le_of_ble_eq_true rfl⟩) ⟨fun a U g mk q => by obtain ⟨q0, q1, qP, qK, qD⟩ := q; exact ⟨q0, q1, qP, va_K.moved (u := U) (U := U.calling g mk a) (Vm.Alike.refl U.vm) qK, qD⟩, fun U hU hW => ⟨rfl, by rw [hU], by rw [hU]; exact hPc, va_K.moved hW.alike hKc, hDc.weaken (fun _ _ _ _ => trivial)⟩⟩ rfl rfl hl.1 rfl (lv_room (Nat.le_of_ble_eq_true rfl)) dX6_writeDisk_8 ⟨Nat.le_of_ble_eq_true rfl, Nat.le_of_ble_eq_true rfl⟩) hS (fun q _ h => hFc q h) hFc (fun r9 u9 t H1 locs ht hvm hw hB hz1 hk1 hS => ?_)
    obtain ⟨hw1, hw2⟩ := hw
    have hw2 := hw2.symm
    subst hw1 hw2
    obtain ⟨hP1, hK1, hD1⟩ := hB
    rw [ht] at hP1
    obtain ⟨hP, hD⟩ := jN_any (ws := (wX cI xO pO mS mA dS dA cO iA oA kO fO aO rA u)) hP hD hk1
    clear hPc hDc hKc hFc hz1 hk1 hP1 hK1 hD1 ht hvm
    generalize H1 = H at hP hS ⊢
    refine lv_if_ne (tgt := 22) hx hb dX6_writeDisk_11 (by decide) (fun c2 => ?_) (fun c2 => ?_)
    · skip
      refine lv_aload_n hx hb dX6_writeDisk_22 rfl (lv_at hl 0 rfl) ?_
      refine va_get (D := (dC, dI)) (ci := 6) (v := .ref dS) (C := RX6) (T := TX6) (N := 5) hx hb hts iX6_writeDisk_X6 hown hK hP 0 rfl rfl 1 (by decide) (hts _ qX6_writeDisk_0) (fun _ h9 => h9) rfl dX6_writeDisk_23 ?_
      refine lv_iload_n hx hb dX6_writeDisk_26 rfl (lv_at hl 1 rfl) ?_
      refine lv_iload_n hx hb dX6_writeDisk_27 rfl (lv_at hl 2 rfl) ?_
      obtain ⟨hPc, hDc, hFc⟩ := xX_S_dS hP hD hS hA
      have hKc := hK.sub (tys' := [(cI, .int)]) [0] rfl
      refine va_calli (va_runV (As := [.int a1, .int a2]) (rest := []) ⟨hx, hb, hml, hown, hts⟩ (k_X5_exchange l dC dI cI dS dA H.size (gPW_d u) a1 a2) (cwV 2 hts gX6_writeDisk_X5_exchange rfl rfl rfl (by decide +kernel) ⟨Nat.le_of_ble_eq_true rfl, Nat.le_of_ble_eq_true rfl⟩) ⟨fun a U g mk q => by obtain ⟨q0, q1, qP, qK, qD⟩ := q; exact ⟨q0, q1, qP, va_K.moved (u := U) (U := U.calling g mk a) (Vm.Alike.refl U.vm) qK, qD⟩, va_recv hKc hPc (ci := 5) (q0 := 0) rfl rfl, fun U hU hW => ⟨rfl, by rw [hU], by rw [hU]; exact hPc, va_K.moved hW.alike hKc, hDc.weaken (fun _ _ _ _ => trivial)⟩⟩ rfl rfl hl.1 rfl (lv_room (Nat.le_of_ble_eq_true rfl)) dX6_writeDisk_28 ⟨Nat.le_of_ble_eq_true rfl, Nat.le_of_ble_eq_true rfl⟩) hS (fun q _ h => hFc q h) hFc (fun r9 u9 t H1 locs ht hvm hw hB hz1 hk1 hS => ?_)
      obtain ⟨rfl, rfl⟩ := hw
      obtain ⟨hP1, hK1, hD1⟩ := hB
      rw [ht] at hP1
      obtain ⟨hP, hD⟩ := jX_S_dS hP hD hk1 hFc hP1 hD1
      clear hPc hDc hKc hFc hz1 hk1 hP1 hK1 hD1 ht hvm
      generalize H1 = H at hP hS ⊢
      refine vx_ret ?_
      refine W.widen (k := 1) (n := 6) (Nat.le_of_ble_eq_true rfl) (Nat.le_of_ble_eq_true rfl) ?_
      exact W.iret (v := (f_X5_exchange (gPW_d u) a1 a2).1) hx hb hr (fun t ht hW => ⟨⟨(f_X5_exchange (gPW_d u) a1 a2).1, (sPW_d u (f_X5_exchange (gPW_d u) a1 a2).2), rfl, (by simp only [f_X6_writeDisk, if_neg c1, if_neg c2]), by rw [ht]; exact hP, va_K.moved hW.alike hK, hD⟩, hS.F ht⟩) hS.2.2 dX6_writeDisk_31
    · skip
      exact vx_throw0 (own := RX6) (cls := "java/lang/IllegalArgumentException") (names := ["java/lang/RuntimeException", "java/lang/Exception"]) (A := A) hx hb hl0 hown (by decide +kernel) (by decide +kernel) (hts _ qX6_writeDisk_1) (hts _ qX6_writeDisk_2) (vx_hat (L := vx_at0 RX6 53 "java/lang/IllegalArgumentException" ["java/lang/RuntimeException", "java/lang/Exception"]) (B := tBad) (fun w hw => hts w (List.mem_cons_of_mem _ (List.mem_append_right _ hw))) (by decide +kernel) (fun w hw => va_Nw.use (tBad_tab w hw) (hT.2.2 w hw))) (by decide +kernel) hT.1 hT.2.1 hS (hl.1.trans hml.symm) dX6_writeDisk_14 dX6_writeDisk_17 dX6_writeDisk_18 dX6_writeDisk_21 (fun x hx9 => (htab x hx9).elim) (Nat.le_of_ble_eq_true rfl) (Nat.le_of_ble_eq_true rfl) (Nat.le_of_ble_eq_true rfl) (Nat.le_of_ble_eq_true rfl) hlocks (fun t ha hz hs => ⟨u, ⟨(by simp only [f_X6_writeDisk, if_neg c1, if_pos c2]), rfl⟩, ⟨rfl, (tx_fin hP hK hD hS ha hz hs).1⟩, (tx_fin hP hK hD hS ha hz hs).2⟩) hS.2.2 (Nat.le_of_ble_eq_true rfl) (Nat.le_of_ble_eq_true rfl)

def f_X6_readDisk (u : PW) (a1 : Int32) : Option Int32 := 
  if (bI (f_X6_isPlace a1)) = (0 : Int32) then none
  else some (f_X5_byteAt (gPW_d u) a1)
theorem qX6_readDisk_0 : Cond.fieldLink RX6 16 "DiskMachine" "disk" "LDiskMachine$Store;" ∈ wsX6_readDisk := by decide +kernel
theorem qX6_readDisk_1 : Cond.classLink RX6 51 "java/lang/IllegalArgumentException" ∈ wsX6_readDisk := by decide +kernel
theorem qX6_readDisk_2 : Cond.initialized "java/lang/IllegalArgumentException" ∈ wsX6_readDisk := by decide +kernel
theorem iX6_readDisk_X6 : ∀ w ∈ wsX60, w ∈ wsX6_readDisk := by decide +kernel
set_option maxHeartbeats 4000000 in
set_option maxRecDepth 100000 in
theorem k_X6_readDisk (l : Launch) (hl0 : l.stackTraces = false) (dC : Nat → ClassId) (dI : Nat → Nat → Nat) (cI : ClassId) (xO pO mS mA dS dA cO iA oA kO fO aO rA : Nat) (sz : Nat) (u : PW) (a1 : Int32) : vx_Met l yX6_readDisk wsX6_readDisk ({ frames := 6, cells := 1, slots := 6, locals := 81 }) (va_Pc [.ref xO, .int a1] (wBX dC dI [(cI, .int)] sz (wX cI xO pO mS mA dS dA cO iA oA kO fO aO rA u))) (va_Qi (fun (r : Int32) (u' : PW) => some r = (f_X6_readDisk u a1) ∧ u' = u) (fun u' => wE dC dI [(cI, .int)] (va_A (wX cI xO pO mS mA dS dA cO iA oA kO fO aO rA u) sz) (wX cI xO pO mS mA dS dA cO iA oA kO fO aO rA u')) (va_A (wX cI xO pO mS mA dS dA cO iA oA kO fO aO rA u) sz)) (vx_X (fun u' : PW => (f_X6_readDisk u a1) = none ∧ u' = u) (fun (E : String) (u' : PW) (t : State) => E = "java/lang/IllegalArgumentException" ∧ wE dC dI [(cI, .int)] (va_A (wX cI xO pO mS mA dS dA cO iA oA kO fO aO rA u) sz) (wX cI xO pO mS mA dS dA cO iA oA kO fO aO rA u') t) (va_A (wX cI xO pO mS mA dS dA cO iA oA kO fO aO rA u) sz)) 1 6 (va_A (wX cI xO pO mS mA dS dA cO iA oA kO fO aO rA u) sz) := by
  refine vx_ofW (cc := cX6_readDisk) (maxL := 2) (ret := (some .int)) (by decide) rfl ?_
  intro p e s m args below meth c s₁ B hml htab hv
  obtain ⟨rfl, hsz, hP, hK, hD0, hT⟩ := hv
  have hx := B.exec
  have hb := B.bytes
  have hr := B.returns
  have hts := atoms_spec (ws := wsX6_readDisk) B.pre
  have hown : s.vm.findClass RX6 = some m.cls := findClass_of_methodNamed B.named
  have hlocks := B.notSynchronized
  subst hsz
  have hD := hD0.self (sz := s.heap.size)
  generalize hAe : va_A (wX cI xO pO mS mA dS dA cO iA oA kO fO aO rA u) s.heap.size = A at hD hT ⊢
  have hA : ∀ q : Nat, s.heap.size ≤ q → A q := fun q h => by rw [← hAe]; exact Or.inr h
  have hS : va_S A s.heap s.heap [] := va_S.rf
  have hP : va_P (dC, dI) vwCl (wX cI xO pO mS mA dS dA cO iA oA kO fO aO rA u) s.heap := hP
  clear hAe hD0
  have hl := lv_entry ([.ref xO, .int a1]) (n := 2) (Nat.le_of_ble_eq_true rfl)
  rw [lg_entry_eq]
  generalize (lg_sl ([.ref xO, .int a1]) ++ List.replicate (2 - (lg_sl ([.ref xO, .int a1])).length) Slot.unset).toArray = ls at hl ⊢
  have hl : lv_has ls 2 [(0, .ref xO), (1, .int a1)] := hl
  refine jn_H hP hS (fun H locs hP hS => ?_)
  refine lv_iload_n hx hb dX6_readDisk_0 rfl (lv_at hl 1 rfl) ?_
  have hPc := hP.sub (ws' := ([] : va_W)) [] rfl
  have hDc := hD.sub (ws' := ([] : va_W)) [] (by decide) rfl
  have hFc := va_free (wc := ([] : va_W)) hD hS hA [] rfl
  have hKc := hK.sub (tys' := []) [] rfl
  refine va_calli (va_runS (As := [.int a1]) (rest := []) ⟨hx, hb, hml, hown, hts⟩ (k_X6_isPlace l dC dI H.size a1) (va_cwS 1 hts gX6_readDisk_X6_isPlace rfl rfl rfl (by decide +kernel) ⟨Nat.le_of_ble_eq_true rfl, Nat.le_of_ble_eq_true rfl⟩) ⟨fun a U g mk q => by obtain ⟨q0, q1, qP, qK, qD⟩ := q; exact ⟨q0, q1, qP, va_K.moved (u := U) (U := U.calling g mk a) (Vm.Alike.refl U.vm) qK, qD⟩, fun U hU hW => ⟨rfl, by rw [hU], by rw [hU]; exact hPc, va_K.moved hW.alike hKc, hDc.weaken (fun _ _ _ _ => trivial)⟩⟩ rfl rfl hl.1 rfl (lv_room (Nat.le_of_ble_eq_true rfl)) dX6_readDisk_1 ⟨Nat.le_of_ble_eq_true rfl, Nat.le_of_ble_eq_true rfl⟩) hS (fun q _ h => hFc q h) hFc (fun r9 u9 t H1 locs ht hvm hw hB hz1 hk1 hS => ?_)
  obtain ⟨hw1, hw2⟩ := hw
  have hw2 := hw2.symm
  subst hw1 hw2
  obtain ⟨hP1, hK1, hD1⟩ := hB
  rw [ht] at hP1
  obtain ⟨hP, hD⟩ := jN_any (ws := (wX cI xO pO mS mA dS dA cO iA oA kO fO aO rA u)) hP hD hk1
  clear hPc hDc hKc hFc hz1 hk1 hP1 hK1 hD1 ht hvm
  generalize H1 = H at hP hS ⊢
  refine lv_if_ne (tgt := 15) hx hb dX6_readDisk_4 (by decide) (fun c1 => ?_) (fun c1 => ?_)
  · skip
    refine lv_aload_n hx hb dX6_readDisk_15 rfl (lv_at hl 0 rfl) ?_
    refine va_get (D := (dC, dI)) (ci := 6) (v := .ref dS) (C := RX6) (T := TX6) (N := 5) hx hb hts iX6_readDisk_X6 hown hK hP 0 rfl rfl 1 (by decide) (hts _ qX6_readDisk_0) (fun _ h9 => h9) rfl dX6_readDisk_16 ?_
    refine lv_iload_n hx hb dX6_readDisk_19 rfl (lv_at hl 1 rfl) ?_
    obtain ⟨hPc, hDc, hFc⟩ := xX_S_dS hP hD hS hA
    have hKc := hK.sub (tys' := [(cI, .int)]) [0] rfl
    refine va_calli (va_runV (As := [.int a1]) (rest := []) ⟨hx, hb, hml, hown, hts⟩ (k_X5_byteAt l dC dI cI dS dA H.size (gPW_d u) a1) (cwV 1 hts gX6_readDisk_X5_byteAt rfl rfl rfl (by decide +kernel) ⟨Nat.le_of_ble_eq_true rfl, Nat.le_of_ble_eq_true rfl⟩) ⟨fun a U g mk q => by obtain ⟨q0, q1, qP, qK, qD⟩ := q; exact ⟨q0, q1, qP, va_K.moved (u := U) (U := U.calling g mk a) (Vm.Alike.refl U.vm) qK, qD⟩, va_recv hKc hPc (ci := 5) (q0 := 0) rfl rfl, fun U hU hW => ⟨rfl, by rw [hU], by rw [hU]; exact hPc, va_K.moved hW.alike hKc, hDc.weaken (fun _ _ _ _ => trivial)⟩⟩ rfl rfl hl.1 rfl (lv_room (Nat.le_of_ble_eq_true rfl)) dX6_readDisk_20 ⟨Nat.le_of_ble_eq_true rfl, Nat.le_of_ble_eq_true rfl⟩) hS (fun q _ h => hFc q h) hFc (fun r9 u9 t H1 locs ht hvm hw hB hz1 hk1 hS => ?_)
    obtain ⟨hw1, hw2⟩ := hw
    have hw2 := hw2.symm
    subst hw1 hw2
    obtain ⟨hP1, hK1, hD1⟩ := hB
    rw [ht] at hP1
    obtain ⟨hP, hD⟩ := jX_S_dS0 hP hD hk1 hFc hP1 hD1
    clear hPc hDc hKc hFc hz1 hk1 hP1 hK1 hD1 ht hvm
    generalize H1 = H at hP hS ⊢
    refine vx_ret ?_
    refine W.widen (k := 1) (n := 6) (Nat.le_of_ble_eq_true rfl) (Nat.le_of_ble_eq_true rfl) ?_
    exact W.iret (v := (f_X5_byteAt (gPW_d u) a1)) hx hb hr (fun t ht hW => ⟨⟨(f_X5_byteAt (gPW_d u) a1), u, rfl, ⟨(by simp only [f_X6_readDisk, if_neg c1]), rfl⟩, by rw [ht]; exact hP, va_K.moved hW.alike hK, hD⟩, hS.F ht⟩) hS.2.2 dX6_readDisk_23
  · skip
    exact vx_throw0 (own := RX6) (cls := "java/lang/IllegalArgumentException") (names := ["java/lang/RuntimeException", "java/lang/Exception"]) (A := A) hx hb hl0 hown (by decide +kernel) (by decide +kernel) (hts _ qX6_readDisk_1) (hts _ qX6_readDisk_2) (vx_hat (L := vx_at0 RX6 53 "java/lang/IllegalArgumentException" ["java/lang/RuntimeException", "java/lang/Exception"]) (B := tBad) (fun w hw => hts w (List.mem_cons_of_mem _ (List.mem_append_right _ hw))) (by decide +kernel) (fun w hw => va_Nw.use (tBad_tab w hw) (hT.2.2 w hw))) (by decide +kernel) hT.1 hT.2.1 hS (hl.1.trans hml.symm) dX6_readDisk_7 dX6_readDisk_10 dX6_readDisk_11 dX6_readDisk_14 (fun x hx9 => (htab x hx9).elim) (Nat.le_of_ble_eq_true rfl) (Nat.le_of_ble_eq_true rfl) (Nat.le_of_ble_eq_true rfl) (Nat.le_of_ble_eq_true rfl) hlocks (fun t ha hz hs => ⟨u, ⟨(by simp only [f_X6_readDisk, if_pos c1]), rfl⟩, ⟨rfl, (tx_fin hP hK hD hS ha hz hs).1⟩, (tx_fin hP hK hD hS ha hz hs).2⟩) hS.2.2 (Nat.le_of_ble_eq_true rfl) (Nat.le_of_ble_eq_true rfl)

def f_X6_register (u : PW) (a1 : Int32) : Option Int32 := 
  if (bI (f_X4_shows a1)) = (0 : Int32) then none
  else some (f_X4_shown u a1)
theorem qX6_register_0 : Cond.fieldLink RX6 40 "DiskMachine" "processor" "LDiskMachine$Processor;" ∈ wsX6_register := by decide +kernel
theorem qX6_register_1 : Cond.classLink RX6 65 "java/lang/IndexOutOfBoundsException" ∈ wsX6_register := by decide +kernel
theorem qX6_register_2 : Cond.initialized "java/lang/IndexOutOfBoundsException" ∈ wsX6_register := by decide +kernel
theorem iX6_register_X6 : ∀ w ∈ wsX60, w ∈ wsX6_register := by decide +kernel
set_option maxHeartbeats 4000000 in
set_option maxRecDepth 100000 in
theorem k_X6_register (l : Launch) (hl0 : l.stackTraces = false) (dC : Nat → ClassId) (dI : Nat → Nat → Nat) (cI : ClassId) (xO pO mS mA dS dA cO iA oA kO fO aO rA : Nat) (sz : Nat) (u : PW) (a1 : Int32) : vx_Met l yX6_register wsX6_register ({ frames := 6, cells := 1, slots := 6, locals := 81 }) (va_Pc [.ref xO, .int a1] (wBX dC dI [(cI, .int)] sz (wX cI xO pO mS mA dS dA cO iA oA kO fO aO rA u))) (va_Qi (fun (r : Int32) (u' : PW) => some r = (f_X6_register u a1) ∧ u' = u) (fun u' => wE dC dI [(cI, .int)] (va_A (wX cI xO pO mS mA dS dA cO iA oA kO fO aO rA u) sz) (wX cI xO pO mS mA dS dA cO iA oA kO fO aO rA u')) (va_A (wX cI xO pO mS mA dS dA cO iA oA kO fO aO rA u) sz)) (vx_X (fun u' : PW => (f_X6_register u a1) = none ∧ u' = u) (fun (E : String) (u' : PW) (t : State) => E = "java/lang/IndexOutOfBoundsException" ∧ wE dC dI [(cI, .int)] (va_A (wX cI xO pO mS mA dS dA cO iA oA kO fO aO rA u) sz) (wX cI xO pO mS mA dS dA cO iA oA kO fO aO rA u') t) (va_A (wX cI xO pO mS mA dS dA cO iA oA kO fO aO rA u) sz)) 1 6 (va_A (wX cI xO pO mS mA dS dA cO iA oA kO fO aO rA u) sz) := by
  refine vx_ofW (cc := cX6_register) (maxL := 2) (ret := (some .int)) (by decide) rfl ?_
  intro p e s m args below meth c s₁ B hml htab hv
  obtain ⟨rfl, hsz, hP, hK, hD0, hT⟩ := hv
  have hx := B.exec
  have hb := B.bytes
  have hr := B.returns
  have hts := atoms_spec (ws := wsX6_register) B.pre
  have hown : s.vm.findClass RX6 = some m.cls := findClass_of_methodNamed B.named
  have hlocks := B.notSynchronized
  subst hsz
  have hD := hD0.self (sz := s.heap.size)
  generalize hAe : va_A (wX cI xO pO mS mA dS dA cO iA oA kO fO aO rA u) s.heap.size = A at hD hT ⊢
  have hA : ∀ q : Nat, s.heap.size ≤ q → A q := fun q h => by rw [← hAe]; exact Or.inr h
  have hS : va_S A s.heap s.heap [] := va_S.rf
  have hP : va_P (dC, dI) vwCl (wX cI xO pO mS mA dS dA cO iA oA kO fO aO rA u) s.heap := hP
  clear hAe hD0
  have hl := lv_entry ([.ref xO, .int a1]) (n := 2) (Nat.le_of_ble_eq_true rfl)
  rw [lg_entry_eq]
  generalize (lg_sl ([.ref xO, .int a1]) ++ List.replicate (2 - (lg_sl ([.ref xO, .int a1])).length) Slot.unset).toArray = ls at hl ⊢
  have hl : lv_has ls 2 [(0, .ref xO), (1, .int a1)] := hl
  refine jn_H hP hS (fun H locs hP hS => ?_)
  refine lv_iload_n hx hb dX6_register_0 rfl (lv_at hl 1 rfl) ?_
  have hPc := hP.sub (ws' := ([] : va_W)) [] rfl
  have hDc := hD.sub (ws' := ([] : va_W)) [] (by decide) rfl
  have hFc := va_free (wc := ([] : va_W)) hD hS hA [] rfl
  have hKc := hK.sub (tys' := []) [] rfl
  refine va_calli (va_runS (As := [.int a1]) (rest := []) ⟨hx, hb, hml, hown, hts⟩ (k_X4_shows l dC dI H.size a1) (va_cwS 1 hts gX6_register_X4_shows rfl rfl rfl (by decide +kernel) ⟨Nat.le_of_ble_eq_true rfl, Nat.le_of_ble_eq_true rfl⟩) ⟨fun a U g mk q => by obtain ⟨q0, q1, qP, qK, qD⟩ := q; exact ⟨q0, q1, qP, va_K.moved (u := U) (U := U.calling g mk a) (Vm.Alike.refl U.vm) qK, qD⟩, fun U hU hW => ⟨rfl, by rw [hU], by rw [hU]; exact hPc, va_K.moved hW.alike hKc, hDc.weaken (fun _ _ _ _ => trivial)⟩⟩ rfl rfl hl.1 rfl (lv_room (Nat.le_of_ble_eq_true rfl)) dX6_register_1 ⟨Nat.le_of_ble_eq_true rfl, Nat.le_of_ble_eq_true rfl⟩) hS (fun q _ h => hFc q h) hFc (fun r9 u9 t H1 locs ht hvm hw hB hz1 hk1 hS => ?_)
  obtain ⟨hw1, hw2⟩ := hw
  have hw2 := hw2.symm
  subst hw1 hw2
  obtain ⟨hP1, hK1, hD1⟩ := hB
  rw [ht] at hP1
  obtain ⟨hP, hD⟩ := jN_any (ws := (wX cI xO pO mS mA dS dA cO iA oA kO fO aO rA u)) hP hD hk1
  clear hPc hDc hKc hFc hz1 hk1 hP1 hK1 hD1 ht hvm
  generalize H1 = H at hP hS ⊢
  refine lv_if_ne (tgt := 15) hx hb dX6_register_4 (by decide) (fun c1 => ?_) (fun c1 => ?_)
  · skip
    refine lv_aload_n hx hb dX6_register_15 rfl (lv_at hl 0 rfl) ?_
    refine va_get (D := (dC, dI)) (ci := 6) (v := .ref pO) (C := RX6) (T := TX6) (N := 5) hx hb hts iX6_register_X6 hown hK hP 0 rfl rfl 4 (by decide) (hts _ qX6_register_0) (fun _ h9 => h9) rfl dX6_register_16 ?_
    refine lv_iload_n hx hb dX6_register_19 rfl (lv_at hl 1 rfl) ?_
    obtain ⟨hPc, hDc, hFc⟩ := xX_P hP hD hS hA
    have hKc := hK.sub (tys' := [(cI, .int)]) [0] rfl
    refine va_calli (va_runV (As := [.int a1]) (rest := []) ⟨hx, hb, hml, hown, hts⟩ (k_X4_shown l dC dI cI pO mS mA dS dA cO iA oA kO fO aO rA H.size u a1) (cwV 1 hts gX6_register_X4_shown rfl rfl rfl (by decide +kernel) ⟨Nat.le_of_ble_eq_true rfl, Nat.le_of_ble_eq_true rfl⟩) ⟨fun a U g mk q => by obtain ⟨q0, q1, qP, qK, qD⟩ := q; exact ⟨q0, q1, qP, va_K.moved (u := U) (U := U.calling g mk a) (Vm.Alike.refl U.vm) qK, qD⟩, va_recv hKc hPc (ci := 4) (q0 := 0) rfl rfl, fun U hU hW => ⟨rfl, by rw [hU], by rw [hU]; exact hPc, va_K.moved hW.alike hKc, hDc.weaken (fun _ _ _ _ => trivial)⟩⟩ rfl rfl hl.1 rfl (lv_room (Nat.le_of_ble_eq_true rfl)) dX6_register_20 ⟨Nat.le_of_ble_eq_true rfl, Nat.le_of_ble_eq_true rfl⟩) hS (fun q _ h => hFc q h) hFc (fun r9 u9 t H1 locs ht hvm hw hB hz1 hk1 hS => ?_)
    obtain ⟨hw1, hw2⟩ := hw
    have hw2 := hw2.symm
    subst hw1 hw2
    obtain ⟨hP1, hK1, hD1⟩ := hB
    rw [ht] at hP1
    obtain ⟨hP, hD⟩ := jX_P0 hP hD hk1 hFc hP1 hD1
    clear hPc hDc hKc hFc hz1 hk1 hP1 hK1 hD1 ht hvm
    generalize H1 = H at hP hS ⊢
    refine vx_ret ?_
    refine W.widen (k := 1) (n := 6) (Nat.le_of_ble_eq_true rfl) (Nat.le_of_ble_eq_true rfl) ?_
    exact W.iret (v := (f_X4_shown u a1)) hx hb hr (fun t ht hW => ⟨⟨(f_X4_shown u a1), u, rfl, ⟨(by simp only [f_X6_register, if_neg c1]), rfl⟩, by rw [ht]; exact hP, va_K.moved hW.alike hK, hD⟩, hS.F ht⟩) hS.2.2 dX6_register_23
  · skip
    exact vx_throw0 (own := RX6) (cls := "java/lang/IndexOutOfBoundsException") (names := ["java/lang/RuntimeException", "java/lang/Exception"]) (A := A) hx hb hl0 hown (by decide +kernel) (by decide +kernel) (hts _ qX6_register_1) (hts _ qX6_register_2) (vx_hat (L := vx_at0 RX6 67 "java/lang/IndexOutOfBoundsException" ["java/lang/RuntimeException", "java/lang/Exception"]) (B := tBad) (fun w hw => hts w (List.mem_cons_of_mem _ (List.mem_append_right _ hw))) (by decide +kernel) (fun w hw => va_Nw.use (tBad_tab w hw) (hT.2.2 w hw))) (by decide +kernel) hT.1 hT.2.1 hS (hl.1.trans hml.symm) dX6_register_7 dX6_register_10 dX6_register_11 dX6_register_14 (fun x hx9 => (htab x hx9).elim) (Nat.le_of_ble_eq_true rfl) (Nat.le_of_ble_eq_true rfl) (Nat.le_of_ble_eq_true rfl) (Nat.le_of_ble_eq_true rfl) hlocks (fun t ha hz hs => ⟨u, ⟨(by simp only [f_X6_register, if_pos c1]), rfl⟩, ⟨rfl, (tx_fin hP hK hD hS ha hz hs).1⟩, (tx_fin hP hK hD hS ha hz hs).2⟩) hS.2.2 (Nat.le_of_ble_eq_true rfl) (Nat.le_of_ble_eq_true rfl)

def f_X6_put (u : PW) (a1 : Int32) (a2 : Int32) : Option PW := 
  if (bI (f_X4_shows a1)) = (0 : Int32) then none
  else some (f_X4_change u a1 a2)
theorem qX6_put_0 : Cond.fieldLink RX6 40 "DiskMachine" "processor" "LDiskMachine$Processor;" ∈ wsX6_put := by decide +kernel
theorem qX6_put_1 : Cond.classLink RX6 65 "java/lang/IndexOutOfBoundsException" ∈ wsX6_put := by decide +kernel
theorem qX6_put_2 : Cond.initialized "java/lang/IndexOutOfBoundsException" ∈ wsX6_put := by decide +kernel
theorem iX6_put_X6 : ∀ w ∈ wsX60, w ∈ wsX6_put := by decide +kernel
set_option maxHeartbeats 4000000 in
set_option maxRecDepth 100000 in
theorem k_X6_put (l : Launch) (hl0 : l.stackTraces = false) (dC : Nat → ClassId) (dI : Nat → Nat → Nat) (cI : ClassId) (xO pO mS mA dS dA cO iA oA kO fO aO rA : Nat) (sz : Nat) (u : PW) (a1 : Int32) (a2 : Int32) : vx_Met l yX6_put wsX6_put ({ frames := 6, cells := 1, slots := 6, locals := 81 }) (va_Pc [.ref xO, .int a1, .int a2] (wBX dC dI [(cI, .int)] sz (wX cI xO pO mS mA dS dA cO iA oA kO fO aO rA u))) (va_Qv (fun u' : PW => some u' = (f_X6_put u a1 a2)) (fun u' => wE dC dI [(cI, .int)] (va_A (wX cI xO pO mS mA dS dA cO iA oA kO fO aO rA u) sz) (wX cI xO pO mS mA dS dA cO iA oA kO fO aO rA u')) (va_A (wX cI xO pO mS mA dS dA cO iA oA kO fO aO rA u) sz)) (vx_X (fun u' : PW => (f_X6_put u a1 a2) = none ∧ u' = u) (fun (E : String) (u' : PW) (t : State) => E = "java/lang/IndexOutOfBoundsException" ∧ wE dC dI [(cI, .int)] (va_A (wX cI xO pO mS mA dS dA cO iA oA kO fO aO rA u) sz) (wX cI xO pO mS mA dS dA cO iA oA kO fO aO rA u') t) (va_A (wX cI xO pO mS mA dS dA cO iA oA kO fO aO rA u) sz)) 1 6 (va_A (wX cI xO pO mS mA dS dA cO iA oA kO fO aO rA u) sz) := by
  refine vx_ofW (cc := cX6_put) (maxL := 3) (ret := none) (by decide) rfl ?_
  intro p e s m args below meth c s₁ B hml htab hv
  obtain ⟨rfl, hsz, hP, hK, hD0, hT⟩ := hv
  have hx := B.exec
  have hb := B.bytes
  have hr := B.returns
  have hts := atoms_spec (ws := wsX6_put) B.pre
  have hown : s.vm.findClass RX6 = some m.cls := findClass_of_methodNamed B.named
  have hlocks := B.notSynchronized
  subst hsz
  have hD := hD0.self (sz := s.heap.size)
  generalize hAe : va_A (wX cI xO pO mS mA dS dA cO iA oA kO fO aO rA u) s.heap.size = A at hD hT ⊢
  have hA : ∀ q : Nat, s.heap.size ≤ q → A q := fun q h => by rw [← hAe]; exact Or.inr h
  have hS : va_S A s.heap s.heap [] := va_S.rf
  have hP : va_P (dC, dI) vwCl (wX cI xO pO mS mA dS dA cO iA oA kO fO aO rA u) s.heap := hP
  clear hAe hD0
  have hl := lv_entry ([.ref xO, .int a1, .int a2]) (n := 3) (Nat.le_of_ble_eq_true rfl)
  rw [lg_entry_eq]
  generalize (lg_sl ([.ref xO, .int a1, .int a2]) ++ List.replicate (3 - (lg_sl ([.ref xO, .int a1, .int a2])).length) Slot.unset).toArray = ls at hl ⊢
  have hl : lv_has ls 3 [(0, .ref xO), (1, .int a1), (2, .int a2)] := hl
  refine jn_H hP hS (fun H locs hP hS => ?_)
  refine lv_iload_n hx hb dX6_put_0 rfl (lv_at hl 1 rfl) ?_
  have hPc := hP.sub (ws' := ([] : va_W)) [] rfl
  have hDc := hD.sub (ws' := ([] : va_W)) [] (by decide) rfl
  have hFc := va_free (wc := ([] : va_W)) hD hS hA [] rfl
  have hKc := hK.sub (tys' := []) [] rfl
  refine va_calli (va_runS (As := [.int a1]) (rest := []) ⟨hx, hb, hml, hown, hts⟩ (k_X4_shows l dC dI H.size a1) (va_cwS 1 hts gX6_put_X4_shows rfl rfl rfl (by decide +kernel) ⟨Nat.le_of_ble_eq_true rfl, Nat.le_of_ble_eq_true rfl⟩) ⟨fun a U g mk q => by obtain ⟨q0, q1, qP, qK, qD⟩ := q; exact ⟨q0, q1, qP, va_K.moved (u := U) (U := U.calling g mk a) (Vm.Alike.refl U.vm) qK, qD⟩, fun U hU hW => ⟨rfl, by rw [hU], by rw [hU]; exact hPc, va_K.moved hW.alike hKc, hDc.weaken (fun _ _ _ _ => trivial)⟩⟩ rfl rfl hl.1 rfl (lv_room (Nat.le_of_ble_eq_true rfl)) dX6_put_1 ⟨Nat.le_of_ble_eq_true rfl, Nat.le_of_ble_eq_true rfl⟩) hS (fun q _ h => hFc q h) hFc (fun r9 u9 t H1 locs ht hvm hw hB hz1 hk1 hS => ?_)
  obtain ⟨hw1, hw2⟩ := hw
  have hw2 := hw2.symm
  subst hw1 hw2
  obtain ⟨hP1, hK1, hD1⟩ := hB
  rw [ht] at hP1
  obtain ⟨hP, hD⟩ := jN_any (ws := (wX cI xO pO mS mA dS dA cO iA oA kO fO aO rA u)) hP hD hk1
  clear hPc hDc hKc hFc hz1 hk1 hP1 hK1 hD1 ht hvm
  generalize H1 = H at hP hS ⊢
  refine lv_if_ne (tgt := 15) hx hb dX6_put_4 (by decide) (fun c1 => ?_) (fun c1 => ?_)
  · skip
    refine lv_aload_n hx hb dX6_put_15 rfl (lv_at hl 0 rfl) ?_
    refine va_get (D := (dC, dI)) (ci := 6) (v := .ref pO) (C := RX6) (T := TX6) (N := 5) hx hb hts iX6_put_X6 hown hK hP 0 rfl rfl 4 (by decide) (hts _ qX6_put_0) (fun _ h9 => h9) rfl dX6_put_16 ?_
    refine lv_iload_n hx hb dX6_put_19 rfl (lv_at hl 1 rfl) ?_
    refine lv_iload_n hx hb dX6_put_20 rfl (lv_at hl 2 rfl) ?_
    obtain ⟨hPc, hDc, hFc⟩ := xX_P hP hD hS hA
    have hKc := hK.sub (tys' := [(cI, .int)]) [0] rfl
    refine va_callv (va_runV (As := [.int a1, .int a2]) (rest := []) ⟨hx, hb, hml, hown, hts⟩ (k_X4_change l dC dI cI pO mS mA dS dA cO iA oA kO fO aO rA H.size u a1 a2) (cwV 2 hts gX6_put_X4_change rfl rfl rfl (by decide +kernel) ⟨Nat.le_of_ble_eq_true rfl, Nat.le_of_ble_eq_true rfl⟩) ⟨fun a U g mk q => by obtain ⟨q0, q1, qP, qK, qD⟩ := q; exact ⟨q0, q1, qP, va_K.moved (u := U) (U := U.calling g mk a) (Vm.Alike.refl U.vm) qK, qD⟩, va_recv hKc hPc (ci := 4) (q0 := 0) rfl rfl, fun U hU hW => ⟨rfl, by rw [hU], by rw [hU]; exact hPc, va_K.moved hW.alike hKc, hDc.weaken (fun _ _ _ _ => trivial)⟩⟩ rfl rfl hl.1 rfl (lv_room (Nat.le_of_ble_eq_true rfl)) dX6_put_21 ⟨Nat.le_of_ble_eq_true rfl, Nat.le_of_ble_eq_true rfl⟩) hS (fun q _ h => hFc q h) hFc (fun u9 t H1 locs ht hvm hw hB hz1 hk1 hS => ?_)
    subst hw
    obtain ⟨hP1, hK1, hD1⟩ := hB
    rw [ht] at hP1
    obtain ⟨hP, hD⟩ := jX_P hP hD hk1 hFc hP1 hD1
    clear hPc hDc hKc hFc hz1 hk1 hP1 hK1 hD1 ht hvm
    generalize H1 = H at hP hS ⊢
    refine vx_ret ?_
    refine W.widen (k := 1) (n := 6) (Nat.le_of_ble_eq_true rfl) (Nat.le_of_ble_eq_true rfl) ?_
    exact W.vret hx hb hr (fun t ht hW => ⟨⟨(f_X4_change u a1 a2), rfl, (by simp only [f_X6_put, if_neg c1]), by rw [ht]; exact hP, va_K.moved hW.alike hK, hD⟩, hS.F ht⟩) hS.2.2 dX6_put_24
  · skip
    exact vx_throw0 (own := RX6) (cls := "java/lang/IndexOutOfBoundsException") (names := ["java/lang/RuntimeException", "java/lang/Exception"]) (A := A) hx hb hl0 hown (by decide +kernel) (by decide +kernel) (hts _ qX6_put_1) (hts _ qX6_put_2) (vx_hat (L := vx_at0 RX6 67 "java/lang/IndexOutOfBoundsException" ["java/lang/RuntimeException", "java/lang/Exception"]) (B := tBad) (fun w hw => hts w (List.mem_cons_of_mem _ (List.mem_append_right _ hw))) (by decide +kernel) (fun w hw => va_Nw.use (tBad_tab w hw) (hT.2.2 w hw))) (by decide +kernel) hT.1 hT.2.1 hS (hl.1.trans hml.symm) dX6_put_7 dX6_put_10 dX6_put_11 dX6_put_14 (fun x hx9 => (htab x hx9).elim) (Nat.le_of_ble_eq_true rfl) (Nat.le_of_ble_eq_true rfl) (Nat.le_of_ble_eq_true rfl) (Nat.le_of_ble_eq_true rfl) hlocks (fun t ha hz hs => ⟨u, ⟨(by simp only [f_X6_put, if_pos c1]), rfl⟩, ⟨rfl, (tx_fin hP hK hD hS ha hz hs).1⟩, (tx_fin hP hK hD hS ha hz hs).2⟩) hS.2.2 (Nat.le_of_ble_eq_true rfl) (Nat.le_of_ble_eq_true rfl)

def f_X6_type (u : PW) (a1 : Int32) : Option (Int32 × PW) := 
  if (bI (f_X6_isByte a1)) = (0 : Int32) then none
  else some ((f_X1_takeKey (gPW_C u) a1).1, (sPW_C u (f_X1_takeKey (gPW_C u) a1).2))
theorem qX6_type_0 : Cond.fieldLink RX6 22 "DiskMachine" "console" "LDiskMachine$Console;" ∈ wsX6_type := by decide +kernel
theorem qX6_type_1 : Cond.classLink RX6 51 "java/lang/IllegalArgumentException" ∈ wsX6_type := by decide +kernel
theorem qX6_type_2 : Cond.initialized "java/lang/IllegalArgumentException" ∈ wsX6_type := by decide +kernel
theorem iX6_type_X6 : ∀ w ∈ wsX60, w ∈ wsX6_type := by decide +kernel
set_option maxHeartbeats 4000000 in
set_option maxRecDepth 100000 in
theorem k_X6_type (l : Launch) (hl0 : l.stackTraces = false) (dC : Nat → ClassId) (dI : Nat → Nat → Nat) (cI : ClassId) (xO pO mS mA dS dA cO iA oA kO fO aO rA : Nat) (sz : Nat) (u : PW) (a1 : Int32) (hC : ∃ i j : Nat, i < 64 ∧ j ≤ 64 ∧ gCS_fst (gPW_C u) = nI i ∧ gCS_cnt (gPW_C u) = nI j) : vx_Met l yX6_type wsX6_type ({ frames := 6, cells := 1, slots := 6, locals := 81 }) (va_Pc [.ref xO, .int a1] (wBX dC dI [(cI, .int)] sz (wX cI xO pO mS mA dS dA cO iA oA kO fO aO rA u))) (va_Qi (fun (r : Int32) (u' : PW) => some (r, u') = (f_X6_type u a1)) (fun u' => wE dC dI [(cI, .int)] (va_A (wX cI xO pO mS mA dS dA cO iA oA kO fO aO rA u) sz) (wX cI xO pO mS mA dS dA cO iA oA kO fO aO rA u')) (va_A (wX cI xO pO mS mA dS dA cO iA oA kO fO aO rA u) sz)) (vx_X (fun u' : PW => (f_X6_type u a1) = none ∧ u' = u) (fun (E : String) (u' : PW) (t : State) => E = "java/lang/IllegalArgumentException" ∧ wE dC dI [(cI, .int)] (va_A (wX cI xO pO mS mA dS dA cO iA oA kO fO aO rA u) sz) (wX cI xO pO mS mA dS dA cO iA oA kO fO aO rA u') t) (va_A (wX cI xO pO mS mA dS dA cO iA oA kO fO aO rA u) sz)) 1 6 (va_A (wX cI xO pO mS mA dS dA cO iA oA kO fO aO rA u) sz) := by
  refine vx_ofW (cc := cX6_type) (maxL := 2) (ret := (some .int)) (by decide) rfl ?_
  intro p e s m args below meth c s₁ B hml htab hv
  obtain ⟨rfl, hsz, hP, hK, hD0, hT⟩ := hv
  have hx := B.exec
  have hb := B.bytes
  have hr := B.returns
  have hts := atoms_spec (ws := wsX6_type) B.pre
  have hown : s.vm.findClass RX6 = some m.cls := findClass_of_methodNamed B.named
  have hlocks := B.notSynchronized
  subst hsz
  have hD := hD0.self (sz := s.heap.size)
  generalize hAe : va_A (wX cI xO pO mS mA dS dA cO iA oA kO fO aO rA u) s.heap.size = A at hD hT ⊢
  have hA : ∀ q : Nat, s.heap.size ≤ q → A q := fun q h => by rw [← hAe]; exact Or.inr h
  have hS : va_S A s.heap s.heap [] := va_S.rf
  have hP : va_P (dC, dI) vwCl (wX cI xO pO mS mA dS dA cO iA oA kO fO aO rA u) s.heap := hP
  clear hAe hD0
  have hl := lv_entry ([.ref xO, .int a1]) (n := 2) (Nat.le_of_ble_eq_true rfl)
  rw [lg_entry_eq]
  generalize (lg_sl ([.ref xO, .int a1]) ++ List.replicate (2 - (lg_sl ([.ref xO, .int a1])).length) Slot.unset).toArray = ls at hl ⊢
  have hl : lv_has ls 2 [(0, .ref xO), (1, .int a1)] := hl
  refine jn_H hP hS (fun H locs hP hS => ?_)
  refine lv_iload_n hx hb dX6_type_0 rfl (lv_at hl 1 rfl) ?_
  have hPc := hP.sub (ws' := ([] : va_W)) [] rfl
  have hDc := hD.sub (ws' := ([] : va_W)) [] (by decide) rfl
  have hFc := va_free (wc := ([] : va_W)) hD hS hA [] rfl
  have hKc := hK.sub (tys' := []) [] rfl
  refine va_calli (va_runS (As := [.int a1]) (rest := []) ⟨hx, hb, hml, hown, hts⟩ (k_X6_isByte l dC dI H.size a1) (va_cwS 1 hts gX6_type_X6_isByte rfl rfl rfl (by decide +kernel) ⟨Nat.le_of_ble_eq_true rfl, Nat.le_of_ble_eq_true rfl⟩) ⟨fun a U g mk q => by obtain ⟨q0, q1, qP, qK, qD⟩ := q; exact ⟨q0, q1, qP, va_K.moved (u := U) (U := U.calling g mk a) (Vm.Alike.refl U.vm) qK, qD⟩, fun U hU hW => ⟨rfl, by rw [hU], by rw [hU]; exact hPc, va_K.moved hW.alike hKc, hDc.weaken (fun _ _ _ _ => trivial)⟩⟩ rfl rfl hl.1 rfl (lv_room (Nat.le_of_ble_eq_true rfl)) dX6_type_1 ⟨Nat.le_of_ble_eq_true rfl, Nat.le_of_ble_eq_true rfl⟩) hS (fun q _ h => hFc q h) hFc (fun r9 u9 t H1 locs ht hvm hw hB hz1 hk1 hS => ?_)
  obtain ⟨hw1, hw2⟩ := hw
  have hw2 := hw2.symm
  subst hw1 hw2
  obtain ⟨hP1, hK1, hD1⟩ := hB
  rw [ht] at hP1
  obtain ⟨hP, hD⟩ := jN_any (ws := (wX cI xO pO mS mA dS dA cO iA oA kO fO aO rA u)) hP hD hk1
  clear hPc hDc hKc hFc hz1 hk1 hP1 hK1 hD1 ht hvm
  generalize H1 = H at hP hS ⊢
  refine lv_if_ne (tgt := 15) hx hb dX6_type_4 (by decide) (fun c1 => ?_) (fun c1 => ?_)
  · skip
    refine lv_aload_n hx hb dX6_type_15 rfl (lv_at hl 0 rfl) ?_
    refine va_get (D := (dC, dI)) (ci := 6) (v := .ref cO) (C := RX6) (T := TX6) (N := 5) hx hb hts iX6_type_X6 hown hK hP 0 rfl rfl 2 (by decide) (hts _ qX6_type_0) (fun _ h9 => h9) rfl dX6_type_16 ?_
    refine lv_iload_n hx hb dX6_type_19 rfl (lv_at hl 1 rfl) ?_
    obtain ⟨hPc, hDc, hFc⟩ := xX_C hP hD hS hA
    have hKc := hK.sub (tys' := [(cI, .int)]) [0] rfl
    refine va_calli (va_runV (As := [.int a1]) (rest := []) ⟨hx, hb, hml, hown, hts⟩ (k_X1_takeKey l dC dI cI cO iA oA H.size (gPW_C u) a1 hC) (cwV 1 hts gX6_type_X1_takeKey rfl rfl rfl (by decide +kernel) ⟨Nat.le_of_ble_eq_true rfl, Nat.le_of_ble_eq_true rfl⟩) ⟨fun a U g mk q => by obtain ⟨q0, q1, qP, qK, qD⟩ := q; exact ⟨q0, q1, qP, va_K.moved (u := U) (U := U.calling g mk a) (Vm.Alike.refl U.vm) qK, qD⟩, va_recv hKc hPc (ci := 1) (q0 := 0) rfl rfl, fun U hU hW => ⟨rfl, by rw [hU], by rw [hU]; exact hPc, va_K.moved hW.alike hKc, hDc.weaken (fun _ _ _ _ => trivial)⟩⟩ rfl rfl hl.1 rfl (lv_room (Nat.le_of_ble_eq_true rfl)) dX6_type_20 ⟨Nat.le_of_ble_eq_true rfl, Nat.le_of_ble_eq_true rfl⟩) hS (fun q _ h => hFc q h) hFc (fun r9 u9 t H1 locs ht hvm hw hB hz1 hk1 hS => ?_)
    obtain ⟨rfl, rfl⟩ := hw
    obtain ⟨hP1, hK1, hD1⟩ := hB
    rw [ht] at hP1
    obtain ⟨hP, hD⟩ := jX_C hP hD hk1 hFc hP1 hD1
    clear hPc hDc hKc hFc hz1 hk1 hP1 hK1 hD1 ht hvm
    generalize H1 = H at hP hS ⊢
    refine vx_ret ?_
    refine W.widen (k := 1) (n := 6) (Nat.le_of_ble_eq_true rfl) (Nat.le_of_ble_eq_true rfl) ?_
    exact W.iret (v := (f_X1_takeKey (gPW_C u) a1).1) hx hb hr (fun t ht hW => ⟨⟨(f_X1_takeKey (gPW_C u) a1).1, (sPW_C u (f_X1_takeKey (gPW_C u) a1).2), rfl, (by simp only [f_X6_type, if_neg c1]), by rw [ht]; exact hP, va_K.moved hW.alike hK, hD⟩, hS.F ht⟩) hS.2.2 dX6_type_23
  · skip
    exact vx_throw0 (own := RX6) (cls := "java/lang/IllegalArgumentException") (names := ["java/lang/RuntimeException", "java/lang/Exception"]) (A := A) hx hb hl0 hown (by decide +kernel) (by decide +kernel) (hts _ qX6_type_1) (hts _ qX6_type_2) (vx_hat (L := vx_at0 RX6 53 "java/lang/IllegalArgumentException" ["java/lang/RuntimeException", "java/lang/Exception"]) (B := tBad) (fun w hw => hts w (List.mem_cons_of_mem _ (List.mem_append_right _ hw))) (by decide +kernel) (fun w hw => va_Nw.use (tBad_tab w hw) (hT.2.2 w hw))) (by decide +kernel) hT.1 hT.2.1 hS (hl.1.trans hml.symm) dX6_type_7 dX6_type_10 dX6_type_11 dX6_type_14 (fun x hx9 => (htab x hx9).elim) (Nat.le_of_ble_eq_true rfl) (Nat.le_of_ble_eq_true rfl) (Nat.le_of_ble_eq_true rfl) (Nat.le_of_ble_eq_true rfl) hlocks (fun t ha hz hs => ⟨u, ⟨(by simp only [f_X6_type, if_pos c1]), rfl⟩, ⟨rfl, (tx_fin hP hK hD hS ha hz hs).1⟩, (tx_fin hP hK hD hS ha hz hs).2⟩) hS.2.2 (Nat.le_of_ble_eq_true rfl) (Nat.le_of_ble_eq_true rfl)

def f_X6_text (u : PW) (a1 : Int32) : Option Int32 := 
  if (bI (f_X1_keeps (gPW_C u) a1)) = (0 : Int32) then none
  else some (f_X1_writtenByte (gPW_C u) a1)
theorem qX6_text_0 : Cond.fieldLink RX6 22 "DiskMachine" "console" "LDiskMachine$Console;" ∈ wsX6_text := by decide +kernel
theorem qX6_text_1 : Cond.classLink RX6 65 "java/lang/IndexOutOfBoundsException" ∈ wsX6_text := by decide +kernel
theorem qX6_text_2 : Cond.initialized "java/lang/IndexOutOfBoundsException" ∈ wsX6_text := by decide +kernel
theorem iX6_text_X6 : ∀ w ∈ wsX60, w ∈ wsX6_text := by decide +kernel
set_option maxHeartbeats 4000000 in
set_option maxRecDepth 100000 in
theorem k_X6_text (l : Launch) (hl0 : l.stackTraces = false) (dC : Nat → ClassId) (dI : Nat → Nat → Nat) (cI : ClassId) (xO pO mS mA dS dA cO iA oA kO fO aO rA : Nat) (sz : Nat) (u : PW) (a1 : Int32) : vx_Met l yX6_text wsX6_text ({ frames := 6, cells := 1, slots := 6, locals := 81 }) (va_Pc [.ref xO, .int a1] (wBX dC dI [(cI, .int)] sz (wX cI xO pO mS mA dS dA cO iA oA kO fO aO rA u))) (va_Qi (fun (r : Int32) (u' : PW) => some r = (f_X6_text u a1) ∧ u' = u) (fun u' => wE dC dI [(cI, .int)] (va_A (wX cI xO pO mS mA dS dA cO iA oA kO fO aO rA u) sz) (wX cI xO pO mS mA dS dA cO iA oA kO fO aO rA u')) (va_A (wX cI xO pO mS mA dS dA cO iA oA kO fO aO rA u) sz)) (vx_X (fun u' : PW => (f_X6_text u a1) = none ∧ u' = u) (fun (E : String) (u' : PW) (t : State) => E = "java/lang/IndexOutOfBoundsException" ∧ wE dC dI [(cI, .int)] (va_A (wX cI xO pO mS mA dS dA cO iA oA kO fO aO rA u) sz) (wX cI xO pO mS mA dS dA cO iA oA kO fO aO rA u') t) (va_A (wX cI xO pO mS mA dS dA cO iA oA kO fO aO rA u) sz)) 1 6 (va_A (wX cI xO pO mS mA dS dA cO iA oA kO fO aO rA u) sz) := by
  refine vx_ofW (cc := cX6_text) (maxL := 2) (ret := (some .int)) (by decide) rfl ?_
  intro p e s m args below meth c s₁ B hml htab hv
  obtain ⟨rfl, hsz, hP, hK, hD0, hT⟩ := hv
  have hx := B.exec
  have hb := B.bytes
  have hr := B.returns
  have hts := atoms_spec (ws := wsX6_text) B.pre
  have hown : s.vm.findClass RX6 = some m.cls := findClass_of_methodNamed B.named
  have hlocks := B.notSynchronized
  subst hsz
  have hD := hD0.self (sz := s.heap.size)
  generalize hAe : va_A (wX cI xO pO mS mA dS dA cO iA oA kO fO aO rA u) s.heap.size = A at hD hT ⊢
  have hA : ∀ q : Nat, s.heap.size ≤ q → A q := fun q h => by rw [← hAe]; exact Or.inr h
  have hS : va_S A s.heap s.heap [] := va_S.rf
  have hP : va_P (dC, dI) vwCl (wX cI xO pO mS mA dS dA cO iA oA kO fO aO rA u) s.heap := hP
  clear hAe hD0
  have hl := lv_entry ([.ref xO, .int a1]) (n := 2) (Nat.le_of_ble_eq_true rfl)
  rw [lg_entry_eq]
  generalize (lg_sl ([.ref xO, .int a1]) ++ List.replicate (2 - (lg_sl ([.ref xO, .int a1])).length) Slot.unset).toArray = ls at hl ⊢
  have hl : lv_has ls 2 [(0, .ref xO), (1, .int a1)] := hl
  refine jn_H hP hS (fun H locs hP hS => ?_)
  refine lv_aload_n hx hb dX6_text_0 rfl (lv_at hl 0 rfl) ?_
  refine va_get (D := (dC, dI)) (ci := 6) (v := .ref cO) (C := RX6) (T := TX6) (N := 5) hx hb hts iX6_text_X6 hown hK hP 0 rfl rfl 2 (by decide) (hts _ qX6_text_0) (fun _ h9 => h9) rfl dX6_text_1 ?_
  refine lv_iload_n hx hb dX6_text_4 rfl (lv_at hl 1 rfl) ?_
  obtain ⟨hPc, hDc, hFc⟩ := xX_C hP hD hS hA
  have hKc := hK.sub (tys' := [(cI, .int)]) [0] rfl
  refine va_calli (va_runV (As := [.int a1]) (rest := []) ⟨hx, hb, hml, hown, hts⟩ (k_X1_keeps l dC dI cI cO iA oA H.size (gPW_C u) a1) (cwV 1 hts gX6_text_X1_keeps rfl rfl rfl (by decide +kernel) ⟨Nat.le_of_ble_eq_true rfl, Nat.le_of_ble_eq_true rfl⟩) ⟨fun a U g mk q => by obtain ⟨q0, q1, qP, qK, qD⟩ := q; exact ⟨q0, q1, qP, va_K.moved (u := U) (U := U.calling g mk a) (Vm.Alike.refl U.vm) qK, qD⟩, va_recv hKc hPc (ci := 1) (q0 := 0) rfl rfl, fun U hU hW => ⟨rfl, by rw [hU], by rw [hU]; exact hPc, va_K.moved hW.alike hKc, hDc.weaken (fun _ _ _ _ => trivial)⟩⟩ rfl rfl hl.1 rfl (lv_room (Nat.le_of_ble_eq_true rfl)) dX6_text_5 ⟨Nat.le_of_ble_eq_true rfl, Nat.le_of_ble_eq_true rfl⟩) hS (fun q _ h => hFc q h) hFc (fun r9 u9 t H1 locs ht hvm hw hB hz1 hk1 hS => ?_)
  obtain ⟨hw1, hw2⟩ := hw
  have hw2 := hw2.symm
  subst hw1 hw2
  obtain ⟨hP1, hK1, hD1⟩ := hB
  rw [ht] at hP1
  obtain ⟨hP, hD⟩ := jX_C0 hP hD hk1 hFc hP1 hD1
  clear hPc hDc hKc hFc hz1 hk1 hP1 hK1 hD1 ht hvm
  generalize H1 = H at hP hS ⊢
  refine lv_if_ne (tgt := 19) hx hb dX6_text_8 (by decide) (fun c1 => ?_) (fun c1 => ?_)
  · skip
    refine lv_aload_n hx hb dX6_text_19 rfl (lv_at hl 0 rfl) ?_
    refine va_get (D := (dC, dI)) (ci := 6) (v := .ref cO) (C := RX6) (T := TX6) (N := 5) hx hb hts iX6_text_X6 hown hK hP 0 rfl rfl 2 (by decide) (hts _ qX6_text_0) (fun _ h9 => h9) rfl dX6_text_20 ?_
    refine lv_iload_n hx hb dX6_text_23 rfl (lv_at hl 1 rfl) ?_
    obtain ⟨hPc, hDc, hFc⟩ := xX_C hP hD hS hA
    have hKc := hK.sub (tys' := [(cI, .int)]) [0] rfl
    refine va_calli (va_runV (As := [.int a1]) (rest := []) ⟨hx, hb, hml, hown, hts⟩ (k_X1_writtenByte l dC dI cI cO iA oA H.size (gPW_C u) a1) (cwV 1 hts gX6_text_X1_writtenByte rfl rfl rfl (by decide +kernel) ⟨Nat.le_of_ble_eq_true rfl, Nat.le_of_ble_eq_true rfl⟩) ⟨fun a U g mk q => by obtain ⟨q0, q1, qP, qK, qD⟩ := q; exact ⟨q0, q1, qP, va_K.moved (u := U) (U := U.calling g mk a) (Vm.Alike.refl U.vm) qK, qD⟩, va_recv hKc hPc (ci := 1) (q0 := 0) rfl rfl, fun U hU hW => ⟨rfl, by rw [hU], by rw [hU]; exact hPc, va_K.moved hW.alike hKc, hDc.weaken (fun _ _ _ _ => trivial)⟩⟩ rfl rfl hl.1 rfl (lv_room (Nat.le_of_ble_eq_true rfl)) dX6_text_24 ⟨Nat.le_of_ble_eq_true rfl, Nat.le_of_ble_eq_true rfl⟩) hS (fun q _ h => hFc q h) hFc (fun r9 u9 t H1 locs ht hvm hw hB hz1 hk1 hS => ?_)
    obtain ⟨hw1, hw2⟩ := hw
    have hw2 := hw2.symm
    subst hw1 hw2
    obtain ⟨hP1, hK1, hD1⟩ := hB
    rw [ht] at hP1
    obtain ⟨hP, hD⟩ := jX_C0 hP hD hk1 hFc hP1 hD1
    clear hPc hDc hKc hFc hz1 hk1 hP1 hK1 hD1 ht hvm
    generalize H1 = H at hP hS ⊢
    refine vx_ret ?_
    refine W.widen (k := 1) (n := 6) (Nat.le_of_ble_eq_true rfl) (Nat.le_of_ble_eq_true rfl) ?_
    exact W.iret (v := (f_X1_writtenByte (gPW_C u) a1)) hx hb hr (fun t ht hW => ⟨⟨(f_X1_writtenByte (gPW_C u) a1), u, rfl, ⟨(by simp only [f_X6_text, if_neg c1]), rfl⟩, by rw [ht]; exact hP, va_K.moved hW.alike hK, hD⟩, hS.F ht⟩) hS.2.2 dX6_text_27
  · skip
    exact vx_throw0 (own := RX6) (cls := "java/lang/IndexOutOfBoundsException") (names := ["java/lang/RuntimeException", "java/lang/Exception"]) (A := A) hx hb hl0 hown (by decide +kernel) (by decide +kernel) (hts _ qX6_text_1) (hts _ qX6_text_2) (vx_hat (L := vx_at0 RX6 67 "java/lang/IndexOutOfBoundsException" ["java/lang/RuntimeException", "java/lang/Exception"]) (B := tBad) (fun w hw => hts w (List.mem_cons_of_mem _ (List.mem_append_right _ hw))) (by decide +kernel) (fun w hw => va_Nw.use (tBad_tab w hw) (hT.2.2 w hw))) (by decide +kernel) hT.1 hT.2.1 hS (hl.1.trans hml.symm) dX6_text_11 dX6_text_14 dX6_text_15 dX6_text_18 (fun x hx9 => (htab x hx9).elim) (Nat.le_of_ble_eq_true rfl) (Nat.le_of_ble_eq_true rfl) (Nat.le_of_ble_eq_true rfl) (Nat.le_of_ble_eq_true rfl) hlocks (fun t ha hz hs => ⟨u, ⟨(by simp only [f_X6_text, if_pos c1]), rfl⟩, ⟨rfl, (tx_fin hP hK hD hS ha hz hs).1⟩, (tx_fin hP hK hD hS ha hz hs).2⟩) hS.2.2 (Nat.le_of_ble_eq_true rfl) (Nat.le_of_ble_eq_true rfl)

def f_X6_want (u : PW) (a1 : Int32) : Option PW := 
  if a1 < (0 : Int32) then none
  else 
    if a1 ≤ (7 : Int32) then some (f_X4_callWith u a1)
    else none
theorem qX6_want_0 : Cond.fieldLink RX6 40 "DiskMachine" "processor" "LDiskMachine$Processor;" ∈ wsX6_want := by decide +kernel
theorem qX6_want_1 : Cond.classLink RX6 51 "java/lang/IllegalArgumentException" ∈ wsX6_want := by decide +kernel
theorem qX6_want_2 : Cond.initialized "java/lang/IllegalArgumentException" ∈ wsX6_want := by decide +kernel
theorem iX6_want_X6 : ∀ w ∈ wsX60, w ∈ wsX6_want := by decide +kernel
set_option maxHeartbeats 4000000 in
set_option maxRecDepth 100000 in
theorem k_X6_want (l : Launch) (hl0 : l.stackTraces = false) (dC : Nat → ClassId) (dI : Nat → Nat → Nat) (cI : ClassId) (xO pO mS mA dS dA cO iA oA kO fO aO rA : Nat) (sz : Nat) (u : PW) (a1 : Int32) : vx_Met l yX6_want wsX6_want ({ frames := 6, cells := 1, slots := 6, locals := 81 }) (va_Pc [.ref xO, .int a1] (wBX dC dI [(cI, .int)] sz (wX cI xO pO mS mA dS dA cO iA oA kO fO aO rA u))) (va_Qv (fun u' : PW => some u' = (f_X6_want u a1)) (fun u' => wE dC dI [(cI, .int)] (va_A (wX cI xO pO mS mA dS dA cO iA oA kO fO aO rA u) sz) (wX cI xO pO mS mA dS dA cO iA oA kO fO aO rA u')) (va_A (wX cI xO pO mS mA dS dA cO iA oA kO fO aO rA u) sz)) (vx_X (fun u' : PW => (f_X6_want u a1) = none ∧ u' = u) (fun (E : String) (u' : PW) (t : State) => E = "java/lang/IllegalArgumentException" ∧ wE dC dI [(cI, .int)] (va_A (wX cI xO pO mS mA dS dA cO iA oA kO fO aO rA u) sz) (wX cI xO pO mS mA dS dA cO iA oA kO fO aO rA u') t) (va_A (wX cI xO pO mS mA dS dA cO iA oA kO fO aO rA u) sz)) 1 6 (va_A (wX cI xO pO mS mA dS dA cO iA oA kO fO aO rA u) sz) := by
  refine vx_ofW (cc := cX6_want) (maxL := 2) (ret := none) (by decide) rfl ?_
  intro p e s m args below meth c s₁ B hml htab hv
  obtain ⟨rfl, hsz, hP, hK, hD0, hT⟩ := hv
  have hx := B.exec
  have hb := B.bytes
  have hr := B.returns
  have hts := atoms_spec (ws := wsX6_want) B.pre
  have hown : s.vm.findClass RX6 = some m.cls := findClass_of_methodNamed B.named
  have hlocks := B.notSynchronized
  subst hsz
  have hD := hD0.self (sz := s.heap.size)
  generalize hAe : va_A (wX cI xO pO mS mA dS dA cO iA oA kO fO aO rA u) s.heap.size = A at hD hT ⊢
  have hA : ∀ q : Nat, s.heap.size ≤ q → A q := fun q h => by rw [← hAe]; exact Or.inr h
  have hS : va_S A s.heap s.heap [] := va_S.rf
  have hP : va_P (dC, dI) vwCl (wX cI xO pO mS mA dS dA cO iA oA kO fO aO rA u) s.heap := hP
  clear hAe hD0
  have hl := lv_entry ([.ref xO, .int a1]) (n := 2) (Nat.le_of_ble_eq_true rfl)
  rw [lg_entry_eq]
  generalize (lg_sl ([.ref xO, .int a1]) ++ List.replicate (2 - (lg_sl ([.ref xO, .int a1])).length) Slot.unset).toArray = ls at hl ⊢
  have hl : lv_has ls 2 [(0, .ref xO), (1, .int a1)] := hl
  refine jn_H hP hS (fun H locs hP hS => ?_)
  refine lv_iload_n hx hb dX6_want_0 rfl (lv_at hl 1 rfl) ?_
  refine lv_if_lt (tgt := 10) hx hb dX6_want_1 (by decide) (fun c1 => ?_) (fun c1 => ?_)
  · skip
    exact vx_throw0 (own := RX6) (cls := "java/lang/IllegalArgumentException") (names := ["java/lang/RuntimeException", "java/lang/Exception"]) (A := A) hx hb hl0 hown (by decide +kernel) (by decide +kernel) (hts _ qX6_want_1) (hts _ qX6_want_2) (vx_hat (L := vx_at0 RX6 53 "java/lang/IllegalArgumentException" ["java/lang/RuntimeException", "java/lang/Exception"]) (B := tBad) (fun w hw => hts w (List.mem_cons_of_mem _ (List.mem_append_right _ hw))) (by decide +kernel) (fun w hw => va_Nw.use (tBad_tab w hw) (hT.2.2 w hw))) (by decide +kernel) hT.1 hT.2.1 hS (hl.1.trans hml.symm) dX6_want_10 dX6_want_13 dX6_want_14 dX6_want_17 (fun x hx9 => (htab x hx9).elim) (Nat.le_of_ble_eq_true rfl) (Nat.le_of_ble_eq_true rfl) (Nat.le_of_ble_eq_true rfl) (Nat.le_of_ble_eq_true rfl) hlocks (fun t ha hz hs => ⟨u, ⟨(by simp only [f_X6_want, if_pos c1]), rfl⟩, ⟨rfl, (tx_fin hP hK hD hS ha hz hs).1⟩, (tx_fin hP hK hD hS ha hz hs).2⟩) hS.2.2 (Nat.le_of_ble_eq_true rfl) (Nat.le_of_ble_eq_true rfl)
  · skip
    refine lv_iload_n hx hb dX6_want_4 rfl (lv_at hl 1 rfl) ?_
    refine lv_bipush (v := 7) hx hb dX6_want_5 (by decide) ?_
    refine lv_icmp_le (tgt := 18) hx hb dX6_want_7 (by decide) (fun c2 => ?_) (fun c2 => ?_)
    · skip
      refine lv_aload_n hx hb dX6_want_18 rfl (lv_at hl 0 rfl) ?_
      refine va_get (D := (dC, dI)) (ci := 6) (v := .ref pO) (C := RX6) (T := TX6) (N := 5) hx hb hts iX6_want_X6 hown hK hP 0 rfl rfl 4 (by decide) (hts _ qX6_want_0) (fun _ h9 => h9) rfl dX6_want_19 ?_
      refine lv_iload_n hx hb dX6_want_22 rfl (lv_at hl 1 rfl) ?_
      obtain ⟨hPc, hDc, hFc⟩ := xX_P hP hD hS hA
      have hKc := hK.sub (tys' := [(cI, .int)]) [0] rfl
      refine va_callv (va_runV (As := [.int a1]) (rest := []) ⟨hx, hb, hml, hown, hts⟩ (k_X4_callWith l dC dI cI pO mS mA dS dA cO iA oA kO fO aO rA H.size u a1) (cwV 1 hts gX6_want_X4_callWith rfl rfl rfl (by decide +kernel) ⟨Nat.le_of_ble_eq_true rfl, Nat.le_of_ble_eq_true rfl⟩) ⟨fun a U g mk q => by obtain ⟨q0, q1, qP, qK, qD⟩ := q; exact ⟨q0, q1, qP, va_K.moved (u := U) (U := U.calling g mk a) (Vm.Alike.refl U.vm) qK, qD⟩, va_recv hKc hPc (ci := 4) (q0 := 0) rfl rfl, fun U hU hW => ⟨rfl, by rw [hU], by rw [hU]; exact hPc, va_K.moved hW.alike hKc, hDc.weaken (fun _ _ _ _ => trivial)⟩⟩ rfl rfl hl.1 rfl (lv_room (Nat.le_of_ble_eq_true rfl)) dX6_want_23 ⟨Nat.le_of_ble_eq_true rfl, Nat.le_of_ble_eq_true rfl⟩) hS (fun q _ h => hFc q h) hFc (fun u9 t H1 locs ht hvm hw hB hz1 hk1 hS => ?_)
      subst hw
      obtain ⟨hP1, hK1, hD1⟩ := hB
      rw [ht] at hP1
      obtain ⟨hP, hD⟩ := jX_P hP hD hk1 hFc hP1 hD1
      clear hPc hDc hKc hFc hz1 hk1 hP1 hK1 hD1 ht hvm
      generalize H1 = H at hP hS ⊢
      refine vx_ret ?_
      refine W.widen (k := 1) (n := 6) (Nat.le_of_ble_eq_true rfl) (Nat.le_of_ble_eq_true rfl) ?_
      exact W.vret hx hb hr (fun t ht hW => ⟨⟨(f_X4_callWith u a1), rfl, (by simp only [f_X6_want, if_neg c1, if_pos c2]), by rw [ht]; exact hP, va_K.moved hW.alike hK, hD⟩, hS.F ht⟩) hS.2.2 dX6_want_26
    · skip
      exact vx_throw0 (own := RX6) (cls := "java/lang/IllegalArgumentException") (names := ["java/lang/RuntimeException", "java/lang/Exception"]) (A := A) hx hb hl0 hown (by decide +kernel) (by decide +kernel) (hts _ qX6_want_1) (hts _ qX6_want_2) (vx_hat (L := vx_at0 RX6 53 "java/lang/IllegalArgumentException" ["java/lang/RuntimeException", "java/lang/Exception"]) (B := tBad) (fun w hw => hts w (List.mem_cons_of_mem _ (List.mem_append_right _ hw))) (by decide +kernel) (fun w hw => va_Nw.use (tBad_tab w hw) (hT.2.2 w hw))) (by decide +kernel) hT.1 hT.2.1 hS (hl.1.trans hml.symm) dX6_want_10 dX6_want_13 dX6_want_14 dX6_want_17 (fun x hx9 => (htab x hx9).elim) (Nat.le_of_ble_eq_true rfl) (Nat.le_of_ble_eq_true rfl) (Nat.le_of_ble_eq_true rfl) (Nat.le_of_ble_eq_true rfl) hlocks (fun t ha hz hs => ⟨u, ⟨(by simp only [f_X6_want, if_neg c1, if_neg c2]), rfl⟩, ⟨rfl, (tx_fin hP hK hD hS ha hz hs).1⟩, (tx_fin hP hK hD hS ha hz hs).2⟩) hS.2.2 (Nat.le_of_ble_eq_true rfl) (Nat.le_of_ble_eq_true rfl)

def f_X6_told (u : PW) (a1 : Int32) : Option Int32 := 
  if a1 = 0 then some (bI (if (bI (f_X4_isHalted u)) = (0 : Int32) then false else true : Bool))
  else 
    if a1 = 1 then some (bI (if (bI (f_X4_hasInterruptsOn u)) = (0 : Int32) then false else true : Bool))
    else 
      if a1 = 2 then some (f_X4_wantedInterrupt u)
      else 
        if a1 = 3 then some (f_X2_stateByte (gPW_KW u))
        else 
          if a1 = 4 then some (f_X2_movedCount (gPW_KW u))
          else 
            if a1 = 5 then some (f_X2_addressWord (gPW_KW u))
            else none
theorem qX6_told_0 : Cond.fieldLink RX6 31 "DiskMachine" "controller" "LDiskMachine$Controller;" ∈ wsX6_told := by decide +kernel
theorem qX6_told_1 : Cond.fieldLink RX6 40 "DiskMachine" "processor" "LDiskMachine$Processor;" ∈ wsX6_told := by decide +kernel
theorem qX6_told_2 : Cond.classLink RX6 51 "java/lang/IllegalArgumentException" ∈ wsX6_told := by decide +kernel
theorem qX6_told_3 : Cond.initialized "java/lang/IllegalArgumentException" ∈ wsX6_told := by decide +kernel
theorem iX6_told_X6 : ∀ w ∈ wsX60, w ∈ wsX6_told := by decide +kernel
set_option maxHeartbeats 4000000 in
set_option maxRecDepth 100000 in
theorem k_X6_told (l : Launch) (hl0 : l.stackTraces = false) (dC : Nat → ClassId) (dI : Nat → Nat → Nat) (cI : ClassId) (xO pO mS mA dS dA cO iA oA kO fO aO rA : Nat) (sz : Nat) (u : PW) (a1 : Int32) : vx_Met l yX6_told wsX6_told ({ frames := 6, cells := 1, slots := 6, locals := 81 }) (va_Pc [.ref xO, .int a1] (wBX dC dI [(cI, .int)] sz (wX cI xO pO mS mA dS dA cO iA oA kO fO aO rA u))) (va_Qi (fun (r : Int32) (u' : PW) => some r = (f_X6_told u a1) ∧ u' = u) (fun u' => wE dC dI [(cI, .int)] (va_A (wX cI xO pO mS mA dS dA cO iA oA kO fO aO rA u) sz) (wX cI xO pO mS mA dS dA cO iA oA kO fO aO rA u')) (va_A (wX cI xO pO mS mA dS dA cO iA oA kO fO aO rA u) sz)) (vx_X (fun u' : PW => (f_X6_told u a1) = none ∧ u' = u) (fun (E : String) (u' : PW) (t : State) => E = "java/lang/IllegalArgumentException" ∧ wE dC dI [(cI, .int)] (va_A (wX cI xO pO mS mA dS dA cO iA oA kO fO aO rA u) sz) (wX cI xO pO mS mA dS dA cO iA oA kO fO aO rA u') t) (va_A (wX cI xO pO mS mA dS dA cO iA oA kO fO aO rA u) sz)) 1 6 (va_A (wX cI xO pO mS mA dS dA cO iA oA kO fO aO rA u) sz) := by
  refine vx_ofW (cc := cX6_told) (maxL := 2) (ret := (some .int)) (by decide) rfl ?_
  intro p e s m args below meth c s₁ B hml htab hv
  obtain ⟨rfl, hsz, hP, hK, hD0, hT⟩ := hv
  have hx := B.exec
  have hb := B.bytes
  have hr := B.returns
  have hts := atoms_spec (ws := wsX6_told) B.pre
  have hown : s.vm.findClass RX6 = some m.cls := findClass_of_methodNamed B.named
  have hlocks := B.notSynchronized
  subst hsz
  have hD := hD0.self (sz := s.heap.size)
  generalize hAe : va_A (wX cI xO pO mS mA dS dA cO iA oA kO fO aO rA u) s.heap.size = A at hD hT ⊢
  have hA : ∀ q : Nat, s.heap.size ≤ q → A q := fun q h => by rw [← hAe]; exact Or.inr h
  have hS : va_S A s.heap s.heap [] := va_S.rf
  have hP : va_P (dC, dI) vwCl (wX cI xO pO mS mA dS dA cO iA oA kO fO aO rA u) s.heap := hP
  clear hAe hD0
  have hl := lv_entry ([.ref xO, .int a1]) (n := 2) (Nat.le_of_ble_eq_true rfl)
  rw [lg_entry_eq]
  generalize (lg_sl ([.ref xO, .int a1]) ++ List.replicate (2 - (lg_sl ([.ref xO, .int a1])).length) Slot.unset).toArray = ls at hl ⊢
  have hl : lv_has ls 2 [(0, .ref xO), (1, .int a1)] := hl
  refine jn_H hP hS (fun H locs hP hS => ?_)
  refine lv_iload_n hx hb dX6_told_0 rfl (lv_at hl 1 rfl) ?_
  by_cases c1 : a1 = 0
  · refine tb_in (k := 0) (off := 39) (tgt := 40) hx hb dX6_told_1 c1 (by decide) (by decide) (by decide) (by decide) ?_
    refine lv_aload_n hx hb dX6_told_40 rfl (lv_at hl 0 rfl) ?_
    refine va_get (D := (dC, dI)) (ci := 6) (v := .ref pO) (C := RX6) (T := TX6) (N := 5) hx hb hts iX6_told_X6 hown hK hP 0 rfl rfl 4 (by decide) (hts _ qX6_told_1) (fun _ h9 => h9) rfl dX6_told_41 ?_
    obtain ⟨hPc, hDc, hFc⟩ := xX_P hP hD hS hA
    have hKc := hK.sub (tys' := [(cI, .int)]) [0] rfl
    refine va_calli (va_runV (As := []) (rest := []) ⟨hx, hb, hml, hown, hts⟩ (k_X4_isHalted l dC dI cI pO mS mA dS dA cO iA oA kO fO aO rA H.size u) (cwV 0 hts gX6_told_X4_isHalted rfl rfl rfl (by decide +kernel) ⟨Nat.le_of_ble_eq_true rfl, Nat.le_of_ble_eq_true rfl⟩) ⟨fun a U g mk q => by obtain ⟨q0, q1, qP, qK, qD⟩ := q; exact ⟨q0, q1, qP, va_K.moved (u := U) (U := U.calling g mk a) (Vm.Alike.refl U.vm) qK, qD⟩, va_recv hKc hPc (ci := 4) (q0 := 0) rfl rfl, fun U hU hW => ⟨rfl, by rw [hU], by rw [hU]; exact hPc, va_K.moved hW.alike hKc, hDc.weaken (fun _ _ _ _ => trivial)⟩⟩ rfl rfl hl.1 rfl (lv_room (Nat.le_of_ble_eq_true rfl)) dX6_told_44 ⟨Nat.le_of_ble_eq_true rfl, Nat.le_of_ble_eq_true rfl⟩) hS (fun q _ h => hFc q h) hFc (fun r9 u9 t H1 locs ht hvm hw hB hz1 hk1 hS => ?_)
    obtain ⟨hw1, hw2⟩ := hw
    have hw2 := hw2.symm
    subst hw1 hw2
    obtain ⟨hP1, hK1, hD1⟩ := hB
    rw [ht] at hP1
    obtain ⟨hP, hD⟩ := jX_P0 hP hD hk1 hFc hP1 hD1
    clear hPc hDc hKc hFc hz1 hk1 hP1 hK1 hD1 ht hvm
    generalize H1 = H at hP hS ⊢
    refine jn_b (D := (dC, dI)) (cl := vwCl) (ws := (wX cI xO pO mS mA dS dA cO iA oA kO fO aO rA u)) (A := A) (H0 := s.heap) (nL := 2) 55 (if (bI (f_X4_isHalted u)) = (0 : Int32) then false else true : Bool) [(0, .ref xO), (1, .int a1)] [] (fun H locs ls hP hS hl => ?_) (fun hJ2 => ?_)
    · skip
      refine vx_ret ?_
      refine W.widen (k := 1) (n := 6) (Nat.le_of_ble_eq_true rfl) (Nat.le_of_ble_eq_true rfl) ?_
      exact W.iret (v := (bI (if (bI (f_X4_isHalted u)) = (0 : Int32) then false else true : Bool))) hx hb hr (fun t ht hW => ⟨⟨(bI (if (bI (f_X4_isHalted u)) = (0 : Int32) then false else true : Bool)), u, rfl, ⟨(by simp only [f_X6_told, if_pos c1]), rfl⟩, by rw [ht]; exact hP, va_K.moved hW.alike hK, hD⟩, hS.F ht⟩) hS.2.2 dX6_told_55
    · skip
      refine lv_if_eq (tgt := 54) hx hb dX6_told_47 (by decide) (fun c3 => ?_) (fun c3 => ?_)
      · skip
        refine lv_iconst (v := 0) hx hb dX6_told_54 (by decide) ?_
        exact hJ2 false _ _ _ (by simp only [if_pos c3]) hP hS (lv_sub hl [0, 1] rfl)
      · skip
        refine lv_iconst (v := 1) hx hb dX6_told_50 (by decide) ?_
        refine lv_goto (tgt := 55) hx hb dX6_told_51 (by decide) ?_
        exact hJ2 true _ _ _ (by simp only [if_neg c3]) hP hS (lv_sub hl [0, 1] rfl)
  · skip
    by_cases c4 : a1 = 1
    · refine tb_in (k := 1) (off := 55) (tgt := 56) hx hb dX6_told_1 c4 (by decide) (by decide) (by decide) (by decide) ?_
      refine lv_aload_n hx hb dX6_told_56 rfl (lv_at hl 0 rfl) ?_
      refine va_get (D := (dC, dI)) (ci := 6) (v := .ref pO) (C := RX6) (T := TX6) (N := 5) hx hb hts iX6_told_X6 hown hK hP 0 rfl rfl 4 (by decide) (hts _ qX6_told_1) (fun _ h9 => h9) rfl dX6_told_57 ?_
      obtain ⟨hPc, hDc, hFc⟩ := xX_P hP hD hS hA
      have hKc := hK.sub (tys' := [(cI, .int)]) [0] rfl
      refine va_calli (va_runV (As := []) (rest := []) ⟨hx, hb, hml, hown, hts⟩ (k_X4_hasInterruptsOn l dC dI cI pO mS mA dS dA cO iA oA kO fO aO rA H.size u) (cwV 0 hts gX6_told_X4_hasInterruptsOn rfl rfl rfl (by decide +kernel) ⟨Nat.le_of_ble_eq_true rfl, Nat.le_of_ble_eq_true rfl⟩) ⟨fun a U g mk q => by obtain ⟨q0, q1, qP, qK, qD⟩ := q; exact ⟨q0, q1, qP, va_K.moved (u := U) (U := U.calling g mk a) (Vm.Alike.refl U.vm) qK, qD⟩, va_recv hKc hPc (ci := 4) (q0 := 0) rfl rfl, fun U hU hW => ⟨rfl, by rw [hU], by rw [hU]; exact hPc, va_K.moved hW.alike hKc, hDc.weaken (fun _ _ _ _ => trivial)⟩⟩ rfl rfl hl.1 rfl (lv_room (Nat.le_of_ble_eq_true rfl)) dX6_told_60 ⟨Nat.le_of_ble_eq_true rfl, Nat.le_of_ble_eq_true rfl⟩) hS (fun q _ h => hFc q h) hFc (fun r9 u9 t H1 locs ht hvm hw hB hz1 hk1 hS => ?_)
      obtain ⟨hw1, hw2⟩ := hw
      have hw2 := hw2.symm
      subst hw1 hw2
      obtain ⟨hP1, hK1, hD1⟩ := hB
      rw [ht] at hP1
      obtain ⟨hP, hD⟩ := jX_P0 hP hD hk1 hFc hP1 hD1
      clear hPc hDc hKc hFc hz1 hk1 hP1 hK1 hD1 ht hvm
      generalize H1 = H at hP hS ⊢
      refine jn_b (D := (dC, dI)) (cl := vwCl) (ws := (wX cI xO pO mS mA dS dA cO iA oA kO fO aO rA u)) (A := A) (H0 := s.heap) (nL := 2) 71 (if (bI (f_X4_hasInterruptsOn u)) = (0 : Int32) then false else true : Bool) [(0, .ref xO), (1, .int a1)] [] (fun H locs ls hP hS hl => ?_) (fun hJ5 => ?_)
      · skip
        refine vx_ret ?_
        refine W.widen (k := 1) (n := 6) (Nat.le_of_ble_eq_true rfl) (Nat.le_of_ble_eq_true rfl) ?_
        exact W.iret (v := (bI (if (bI (f_X4_hasInterruptsOn u)) = (0 : Int32) then false else true : Bool))) hx hb hr (fun t ht hW => ⟨⟨(bI (if (bI (f_X4_hasInterruptsOn u)) = (0 : Int32) then false else true : Bool)), u, rfl, ⟨(by simp only [f_X6_told, if_neg c1, if_pos c4]), rfl⟩, by rw [ht]; exact hP, va_K.moved hW.alike hK, hD⟩, hS.F ht⟩) hS.2.2 dX6_told_71
      · skip
        refine lv_if_eq (tgt := 70) hx hb dX6_told_63 (by decide) (fun c6 => ?_) (fun c6 => ?_)
        · skip
          refine lv_iconst (v := 0) hx hb dX6_told_70 (by decide) ?_
          exact hJ5 false _ _ _ (by simp only [if_pos c6]) hP hS (lv_sub hl [0, 1] rfl)
        · skip
          refine lv_iconst (v := 1) hx hb dX6_told_66 (by decide) ?_
          refine lv_goto (tgt := 71) hx hb dX6_told_67 (by decide) ?_
          exact hJ5 true _ _ _ (by simp only [if_neg c6]) hP hS (lv_sub hl [0, 1] rfl)
    · skip
      by_cases c7 : a1 = 2
      · refine tb_in (k := 2) (off := 71) (tgt := 72) hx hb dX6_told_1 c7 (by decide) (by decide) (by decide) (by decide) ?_
        refine lv_aload_n hx hb dX6_told_72 rfl (lv_at hl 0 rfl) ?_
        refine va_get (D := (dC, dI)) (ci := 6) (v := .ref pO) (C := RX6) (T := TX6) (N := 5) hx hb hts iX6_told_X6 hown hK hP 0 rfl rfl 4 (by decide) (hts _ qX6_told_1) (fun _ h9 => h9) rfl dX6_told_73 ?_
        obtain ⟨hPc, hDc, hFc⟩ := xX_P hP hD hS hA
        have hKc := hK.sub (tys' := [(cI, .int)]) [0] rfl
        refine va_calli (va_runV (As := []) (rest := []) ⟨hx, hb, hml, hown, hts⟩ (k_X4_wantedInterrupt l dC dI cI pO mS mA dS dA cO iA oA kO fO aO rA H.size u) (cwV 0 hts gX6_told_X4_wantedInterrupt rfl rfl rfl (by decide +kernel) ⟨Nat.le_of_ble_eq_true rfl, Nat.le_of_ble_eq_true rfl⟩) ⟨fun a U g mk q => by obtain ⟨q0, q1, qP, qK, qD⟩ := q; exact ⟨q0, q1, qP, va_K.moved (u := U) (U := U.calling g mk a) (Vm.Alike.refl U.vm) qK, qD⟩, va_recv hKc hPc (ci := 4) (q0 := 0) rfl rfl, fun U hU hW => ⟨rfl, by rw [hU], by rw [hU]; exact hPc, va_K.moved hW.alike hKc, hDc.weaken (fun _ _ _ _ => trivial)⟩⟩ rfl rfl hl.1 rfl (lv_room (Nat.le_of_ble_eq_true rfl)) dX6_told_76 ⟨Nat.le_of_ble_eq_true rfl, Nat.le_of_ble_eq_true rfl⟩) hS (fun q _ h => hFc q h) hFc (fun r9 u9 t H1 locs ht hvm hw hB hz1 hk1 hS => ?_)
        obtain ⟨hw1, hw2⟩ := hw
        have hw2 := hw2.symm
        subst hw1 hw2
        obtain ⟨hP1, hK1, hD1⟩ := hB
        rw [ht] at hP1
        obtain ⟨hP, hD⟩ := jX_P0 hP hD hk1 hFc hP1 hD1
        clear hPc hDc hKc hFc hz1 hk1 hP1 hK1 hD1 ht hvm
        generalize H1 = H at hP hS ⊢
        refine vx_ret ?_
        refine W.widen (k := 1) (n := 6) (Nat.le_of_ble_eq_true rfl) (Nat.le_of_ble_eq_true rfl) ?_
        exact W.iret (v := (f_X4_wantedInterrupt u)) hx hb hr (fun t ht hW => ⟨⟨(f_X4_wantedInterrupt u), u, rfl, ⟨(by simp only [f_X6_told, if_neg c1, if_neg c4, if_pos c7]), rfl⟩, by rw [ht]; exact hP, va_K.moved hW.alike hK, hD⟩, hS.F ht⟩) hS.2.2 dX6_told_79
      · skip
        by_cases c8 : a1 = 3
        · refine tb_in (k := 3) (off := 79) (tgt := 80) hx hb dX6_told_1 c8 (by decide) (by decide) (by decide) (by decide) ?_
          refine lv_aload_n hx hb dX6_told_80 rfl (lv_at hl 0 rfl) ?_
          refine va_get (D := (dC, dI)) (ci := 6) (v := .ref kO) (C := RX6) (T := TX6) (N := 5) hx hb hts iX6_told_X6 hown hK hP 0 rfl rfl 3 (by decide) (hts _ qX6_told_0) (fun _ h9 => h9) rfl dX6_told_81 ?_
          obtain ⟨hPc, hDc, hFc⟩ := xX_K hP hD hS hA
          have hKc := hK.sub (tys' := [(cI, .int)]) [0] rfl
          refine va_calli (va_runV (As := []) (rest := []) ⟨hx, hb, hml, hown, hts⟩ (k_X2_stateByte l dC dI cI kO mS mA dS dA H.size (gPW_KW u)) (cwV 0 hts gX6_told_X2_stateByte rfl rfl rfl (by decide +kernel) ⟨Nat.le_of_ble_eq_true rfl, Nat.le_of_ble_eq_true rfl⟩) ⟨fun a U g mk q => by obtain ⟨q0, q1, qP, qK, qD⟩ := q; exact ⟨q0, q1, qP, va_K.moved (u := U) (U := U.calling g mk a) (Vm.Alike.refl U.vm) qK, qD⟩, va_recv hKc hPc (ci := 2) (q0 := 0) rfl rfl, fun U hU hW => ⟨rfl, by rw [hU], by rw [hU]; exact hPc, va_K.moved hW.alike hKc, hDc.weaken (fun _ _ _ _ => trivial)⟩⟩ rfl rfl hl.1 rfl (lv_room (Nat.le_of_ble_eq_true rfl)) dX6_told_84 ⟨Nat.le_of_ble_eq_true rfl, Nat.le_of_ble_eq_true rfl⟩) hS (fun q _ h => hFc q h) hFc (fun r9 u9 t H1 locs ht hvm hw hB hz1 hk1 hS => ?_)
          obtain ⟨hw1, hw2⟩ := hw
          have hw2 := hw2.symm
          subst hw1 hw2
          obtain ⟨hP1, hK1, hD1⟩ := hB
          rw [ht] at hP1
          obtain ⟨hP, hD⟩ := jX_K0 hP hD hk1 hFc hP1 hD1
          clear hPc hDc hKc hFc hz1 hk1 hP1 hK1 hD1 ht hvm
          generalize H1 = H at hP hS ⊢
          refine vx_ret ?_
          refine W.widen (k := 1) (n := 6) (Nat.le_of_ble_eq_true rfl) (Nat.le_of_ble_eq_true rfl) ?_
          exact W.iret (v := (f_X2_stateByte (gPW_KW u))) hx hb hr (fun t ht hW => ⟨⟨(f_X2_stateByte (gPW_KW u)), u, rfl, ⟨(by simp only [f_X6_told, if_neg c1, if_neg c4, if_neg c7, if_pos c8]), rfl⟩, by rw [ht]; exact hP, va_K.moved hW.alike hK, hD⟩, hS.F ht⟩) hS.2.2 dX6_told_87
        · skip
          by_cases c9 : a1 = 4
          · refine tb_in (k := 4) (off := 87) (tgt := 88) hx hb dX6_told_1 c9 (by decide) (by decide) (by decide) (by decide) ?_
            refine lv_aload_n hx hb dX6_told_88 rfl (lv_at hl 0 rfl) ?_
            refine va_get (D := (dC, dI)) (ci := 6) (v := .ref kO) (C := RX6) (T := TX6) (N := 5) hx hb hts iX6_told_X6 hown hK hP 0 rfl rfl 3 (by decide) (hts _ qX6_told_0) (fun _ h9 => h9) rfl dX6_told_89 ?_
            obtain ⟨hPc, hDc, hFc⟩ := xX_K hP hD hS hA
            have hKc := hK.sub (tys' := [(cI, .int)]) [0] rfl
            refine va_calli (va_runV (As := []) (rest := []) ⟨hx, hb, hml, hown, hts⟩ (k_X2_movedCount l dC dI cI kO mS mA dS dA H.size (gPW_KW u)) (cwV 0 hts gX6_told_X2_movedCount rfl rfl rfl (by decide +kernel) ⟨Nat.le_of_ble_eq_true rfl, Nat.le_of_ble_eq_true rfl⟩) ⟨fun a U g mk q => by obtain ⟨q0, q1, qP, qK, qD⟩ := q; exact ⟨q0, q1, qP, va_K.moved (u := U) (U := U.calling g mk a) (Vm.Alike.refl U.vm) qK, qD⟩, va_recv hKc hPc (ci := 2) (q0 := 0) rfl rfl, fun U hU hW => ⟨rfl, by rw [hU], by rw [hU]; exact hPc, va_K.moved hW.alike hKc, hDc.weaken (fun _ _ _ _ => trivial)⟩⟩ rfl rfl hl.1 rfl (lv_room (Nat.le_of_ble_eq_true rfl)) dX6_told_92 ⟨Nat.le_of_ble_eq_true rfl, Nat.le_of_ble_eq_true rfl⟩) hS (fun q _ h => hFc q h) hFc (fun r9 u9 t H1 locs ht hvm hw hB hz1 hk1 hS => ?_)
            obtain ⟨hw1, hw2⟩ := hw
            have hw2 := hw2.symm
            subst hw1 hw2
            obtain ⟨hP1, hK1, hD1⟩ := hB
            rw [ht] at hP1
            obtain ⟨hP, hD⟩ := jX_K0 hP hD hk1 hFc hP1 hD1
            clear hPc hDc hKc hFc hz1 hk1 hP1 hK1 hD1 ht hvm
            generalize H1 = H at hP hS ⊢
            refine vx_ret ?_
            refine W.widen (k := 1) (n := 6) (Nat.le_of_ble_eq_true rfl) (Nat.le_of_ble_eq_true rfl) ?_
            exact W.iret (v := (f_X2_movedCount (gPW_KW u))) hx hb hr (fun t ht hW => ⟨⟨(f_X2_movedCount (gPW_KW u)), u, rfl, ⟨(by simp only [f_X6_told, if_neg c1, if_neg c4, if_neg c7, if_neg c8, if_pos c9]), rfl⟩, by rw [ht]; exact hP, va_K.moved hW.alike hK, hD⟩, hS.F ht⟩) hS.2.2 dX6_told_95
          · skip
            by_cases c10 : a1 = 5
            · refine tb_in (k := 5) (off := 95) (tgt := 96) hx hb dX6_told_1 c10 (by decide) (by decide) (by decide) (by decide) ?_
              refine lv_aload_n hx hb dX6_told_96 rfl (lv_at hl 0 rfl) ?_
              refine va_get (D := (dC, dI)) (ci := 6) (v := .ref kO) (C := RX6) (T := TX6) (N := 5) hx hb hts iX6_told_X6 hown hK hP 0 rfl rfl 3 (by decide) (hts _ qX6_told_0) (fun _ h9 => h9) rfl dX6_told_97 ?_
              obtain ⟨hPc, hDc, hFc⟩ := xX_K hP hD hS hA
              have hKc := hK.sub (tys' := [(cI, .int)]) [0] rfl
              refine va_calli (va_runV (As := []) (rest := []) ⟨hx, hb, hml, hown, hts⟩ (k_X2_addressWord l dC dI cI kO mS mA dS dA H.size (gPW_KW u)) (cwV 0 hts gX6_told_X2_addressWord rfl rfl rfl (by decide +kernel) ⟨Nat.le_of_ble_eq_true rfl, Nat.le_of_ble_eq_true rfl⟩) ⟨fun a U g mk q => by obtain ⟨q0, q1, qP, qK, qD⟩ := q; exact ⟨q0, q1, qP, va_K.moved (u := U) (U := U.calling g mk a) (Vm.Alike.refl U.vm) qK, qD⟩, va_recv hKc hPc (ci := 2) (q0 := 0) rfl rfl, fun U hU hW => ⟨rfl, by rw [hU], by rw [hU]; exact hPc, va_K.moved hW.alike hKc, hDc.weaken (fun _ _ _ _ => trivial)⟩⟩ rfl rfl hl.1 rfl (lv_room (Nat.le_of_ble_eq_true rfl)) dX6_told_100 ⟨Nat.le_of_ble_eq_true rfl, Nat.le_of_ble_eq_true rfl⟩) hS (fun q _ h => hFc q h) hFc (fun r9 u9 t H1 locs ht hvm hw hB hz1 hk1 hS => ?_)
              obtain ⟨hw1, hw2⟩ := hw
              have hw2 := hw2.symm
              subst hw1 hw2
              obtain ⟨hP1, hK1, hD1⟩ := hB
              rw [ht] at hP1
              obtain ⟨hP, hD⟩ := jX_K0 hP hD hk1 hFc hP1 hD1
              clear hPc hDc hKc hFc hz1 hk1 hP1 hK1 hD1 ht hvm
              generalize H1 = H at hP hS ⊢
              refine vx_ret ?_
              refine W.widen (k := 1) (n := 6) (Nat.le_of_ble_eq_true rfl) (Nat.le_of_ble_eq_true rfl) ?_
              exact W.iret (v := (f_X2_addressWord (gPW_KW u))) hx hb hr (fun t ht hW => ⟨⟨(f_X2_addressWord (gPW_KW u)), u, rfl, ⟨(by simp only [f_X6_told, if_neg c1, if_neg c4, if_neg c7, if_neg c8, if_neg c9, if_pos c10]), rfl⟩, by rw [ht]; exact hP, va_K.moved hW.alike hK, hD⟩, hS.F ht⟩) hS.2.2 dX6_told_103
            · skip
              refine lv_tableOut (tgt := 104) hx hb dX6_told_1 (by have r0 := lv_neT c1 (a := 0) (by decide); have r1 := lv_neT c4 (a := 1) (by decide); have r2 := lv_neT c7 (a := 2) (by decide); have r3 := lv_neT c8 (a := 3) (by decide); have r4 := lv_neT c9 (a := 4) (by decide); have r5 := lv_neT c10 (a := 5) (by decide); omega) (by decide) ?_
              exact vx_throw0 (own := RX6) (cls := "java/lang/IllegalArgumentException") (names := ["java/lang/RuntimeException", "java/lang/Exception"]) (A := A) hx hb hl0 hown (by decide +kernel) (by decide +kernel) (hts _ qX6_told_2) (hts _ qX6_told_3) (vx_hat (L := vx_at0 RX6 53 "java/lang/IllegalArgumentException" ["java/lang/RuntimeException", "java/lang/Exception"]) (B := tBad) (fun w hw => hts w (List.mem_cons_of_mem _ (List.mem_append_right _ hw))) (by decide +kernel) (fun w hw => va_Nw.use (tBad_tab w hw) (hT.2.2 w hw))) (by decide +kernel) hT.1 hT.2.1 hS (hl.1.trans hml.symm) dX6_told_104 dX6_told_107 dX6_told_108 dX6_told_111 (fun x hx9 => (htab x hx9).elim) (Nat.le_of_ble_eq_true rfl) (Nat.le_of_ble_eq_true rfl) (Nat.le_of_ble_eq_true rfl) (Nat.le_of_ble_eq_true rfl) hlocks (fun t ha hz hs => ⟨u, ⟨(by simp only [f_X6_told, if_neg c1, if_neg c4, if_neg c7, if_neg c8, if_neg c9, if_neg c10]), rfl⟩, ⟨rfl, (tx_fin hP hK hD hS ha hz hs).1⟩, (tx_fin hP hK hD hS ha hz hs).2⟩) hS.2.2 (Nat.le_of_ble_eq_true rfl) (Nat.le_of_ble_eq_true rfl)
