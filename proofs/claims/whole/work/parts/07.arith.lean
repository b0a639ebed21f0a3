def f_X0_added (u : FS) (a1 : Int32) (a2 : Int32) (a3 : Int32) : Int32 × FS := ((((a1 + a2) + a3) &&& (255 : Int32)), (f_X3_setLogic (f_X3_setHalf (f_X3_setCarry u (if ((a1 + a2) + a3) ≤ (255 : Int32) then false else true : Bool)) (if (((a1 &&& (15 : Int32)) + (a2 &&& (15 : Int32))) + a3) ≤ (15 : Int32) then false else true : Bool)) (((a1 + a2) + a3) &&& (255 : Int32))))
theorem qX0_added_0 : Cond.fieldLink RX0 9 "DiskMachine$Arithmetic" "flags" "LDiskMachine$Flags;" ∈ wsX0_added := by decide +kernel
theorem iX0_added_X0 : ∀ w ∈ wsX00, w ∈ wsX0_added := by decide +kernel
set_option maxHeartbeats 4000000 in
set_option maxRecDepth 100000 in
theorem k_X0_added (l : Launch) (dC : Nat → ClassId) (dI : Nat → Nat → Nat) (cI : ClassId) (aO fO : Nat) (sz : Nat) (u : FS) (a1 : Int32) (a2 : Int32) (a3 : Int32) : Met l yX0_added wsX0_added ({ frames := 2, cells := 0, slots := 0, locals := 41 }) (va_Pc [.ref aO, .int a1, .int a2, .int a3] (wB dC dI [(cI, .int)] sz (wA cI aO fO u))) (va_Qi (fun (r : Int32) (u' : FS) => r = (f_X0_added u a1 a2 a3).1 ∧ u' = (f_X0_added u a1 a2 a3).2) (fun u' => wE dC dI [(cI, .int)] (va_A (wA cI aO fO u) sz) (wA cI aO fO u')) (va_A (wA cI aO fO u) sz)) 0 0 (va_A (wA cI aO fO u) sz) := by
  refine Met.ofW (cc := cX0_added) (maxL := 5) (ret := (some .int)) (by decide) rfl ?_
  intro p e s m args below meth c s₁ B hml hv
  obtain ⟨rfl, hsz, hP, hK, hD0⟩ := hv
  have hx := B.exec
  have hb := B.bytes
  have hr := B.returns
  have hts := atoms_spec (ws := wsX0_added) B.pre
  have hown : s.vm.findClass RX0 = some m.cls := findClass_of_methodNamed B.named
  have hlocks := B.notSynchronized
  subst hsz
  have hD := hD0.self (sz := s.heap.size)
  generalize hAe : va_A (wA cI aO fO u) s.heap.size = A at hD ⊢
  have hA : ∀ q : Nat, s.heap.size ≤ q → A q := fun q h => by rw [← hAe]; exact Or.inr h
  have hS : va_S A s.heap s.heap [] := va_S.rf
  have hP : va_P (dC, dI) vwCl (wA cI aO fO u) s.heap := hP
  clear hAe hD0
  have hl := lv_entry ([.ref aO, .int a1, .int a2, .int a3]) (n := 5) (Nat.le_of_ble_eq_true rfl)
  rw [lg_entry_eq]
  generalize (lg_sl ([.ref aO, .int a1, .int a2, .int a3]) ++ List.replicate (5 - (lg_sl ([.ref aO, .int a1, .int a2, .int a3])).length) Slot.unset).toArray = ls at hl ⊢
  have hl : lv_has ls 5 [(0, .ref aO), (1, .int a1), (2, .int a2), (3, .int a3)] := hl
  refine jn_H hP hS (fun H locs hP hS => ?_)
  refine lv_iload_n hx hb dX0_added_0 rfl (lv_at hl 1 rfl) ?_
  refine lv_iload_n hx hb dX0_added_1 rfl (lv_at hl 2 rfl) ?_
  refine lv_iadd hx hb dX0_added_2 ?_
  refine lv_iload_n hx hb dX0_added_3 rfl (lv_at hl 3 rfl) ?_
  refine lv_iadd hx hb dX0_added_4 ?_
  refine lv_istore (lv' := [(4, .int ((a1 + a2) + a3)), (0, .ref aO), (1, .int a1), (2, .int a2), (3, .int a3)]) hx hb dX0_added_5 hl (by decide) rfl (fun ls hl => ?_)
  refine lv_aload_n hx hb dX0_added_7 rfl (lv_at hl 1 rfl) ?_
  refine va_get (D := (dC, dI)) (ci := 0) (v := .ref fO) (C := RX0) (T := TX0) (N := 1) hx hb hts iX0_added_X0 hown hK hP 0 rfl rfl 0 (by decide) (hts _ qX0_added_0) (fun _ h9 => h9) rfl dX0_added_8 ?_
  refine lv_iload hx hb dX0_added_11 (lv_at hl 0 rfl) ?_
  refine lv_sipush (v := 255) hx hb dX0_added_13 (by decide) ?_
  refine jn_b (D := (dC, dI)) (cl := vwCl) (ws := (wA cI aO fO u)) (A := A) (H0 := s.heap) (nL := 5) 24 (if ((a1 + a2) + a3) ≤ (255 : Int32) then false else true : Bool) [(0, .ref aO), (1, .int a1), (2, .int a2), (3, .int a3), (4, .int ((a1 + a2) + a3))] [.ref fO] (fun H locs ls hP hS hl => ?_) (fun hJ1 => ?_)
  · skip
    obtain ⟨hPc, hDc, hFc⟩ := xA_F hP hD hS hA
    have hKc := hK.sub (tys' := [(cI, .int)]) [0] rfl
    refine va_callv (va_runV (As := [.int (bI (if ((a1 + a2) + a3) ≤ (255 : Int32) then false else true : Bool))]) (rest := []) ⟨hx, hb, hml, hown, hts⟩ (k_X3_setCarry l dC dI cI fO H.size u (if ((a1 + a2) + a3) ≤ (255 : Int32) then false else true : Bool)) (cwV 1 hts gX0_added_X3_setCarry rfl rfl rfl (by decide +kernel) ⟨Nat.le_of_ble_eq_true rfl, Nat.le_of_ble_eq_true rfl⟩) ⟨fun a U g mk q => by obtain ⟨q0, q1, qP, qK, qD⟩ := q; exact ⟨q0, q1, qP, va_K.moved (u := U) (U := U.calling g mk a) (Vm.Alike.refl U.vm) qK, qD⟩, va_recv hKc hPc (ci := 3) (q0 := 0) rfl rfl, fun U hU hW => ⟨rfl, by rw [hU], by rw [hU]; exact hPc, va_K.moved hW.alike hKc, hDc.weaken (fun _ _ _ _ => trivial)⟩⟩ rfl rfl hl.1 rfl (lv_room (Nat.le_of_ble_eq_true rfl)) dX0_added_24 ⟨Nat.le_of_ble_eq_true rfl, Nat.le_of_ble_eq_true rfl⟩) hS (fun q _ h => hFc q h) hFc (fun u9 t H1 locs ht hvm hw hB hz1 hk1 hS => ?_)
    subst hw
    obtain ⟨hP1, hK1, hD1⟩ := hB
    rw [ht] at hP1
    obtain ⟨hP, hD⟩ := jA_F hP hD hk1 hFc hP1 hD1
    clear hPc hDc hKc hFc hz1 hk1 hP1 hK1 hD1 ht hvm
    generalize H1 = H at hP hS ⊢
    refine lv_aload_n hx hb dX0_added_27 rfl (lv_at hl 0 rfl) ?_
    refine va_get (D := (dC, dI)) (ci := 0) (v := .ref fO) (C := RX0) (T := TX0) (N := 1) hx hb hts iX0_added_X0 hown hK hP 0 rfl rfl 0 (by decide) (hts _ qX0_added_0) (fun _ h9 => h9) rfl dX0_added_28 ?_
    refine lv_iload_n hx hb dX0_added_31 rfl (lv_at hl 1 rfl) ?_
    refine lv_bipush (v := 15) hx hb dX0_added_32 (by decide) ?_
    refine lv_iand hx hb dX0_added_34 ?_
    refine lv_iload_n hx hb dX0_added_35 rfl (lv_at hl 2 rfl) ?_
    refine lv_bipush (v := 15) hx hb dX0_added_36 (by decide) ?_
    refine lv_iand hx hb dX0_added_38 ?_
    refine lv_iadd hx hb dX0_added_39 ?_
    refine lv_iload_n hx hb dX0_added_40 rfl (lv_at hl 3 rfl) ?_
    refine lv_iadd hx hb dX0_added_41 ?_
    refine lv_bipush (v := 15) hx hb dX0_added_42 (by decide) ?_
    refine jn_b (D := (dC, dI)) (cl := vwCl) (ws := (wA cI aO fO (f_X3_setCarry u (if ((a1 + a2) + a3) ≤ (255 : Int32) then false else true : Bool)))) (A := A) (H0 := s.heap) (nL := 5) 52 (if (((a1 &&& (15 : Int32)) + (a2 &&& (15 : Int32))) + a3) ≤ (15 : Int32) then false else true : Bool) [(0, .ref aO), (1, .int a1), (2, .int a2), (3, .int a3), (4, .int ((a1 + a2) + a3))] [.ref fO] (fun H locs ls hP hS hl => ?_) (fun hJ2 => ?_)
    · skip
      obtain ⟨hPc, hDc, hFc⟩ := xA_F hP hD hS hA
      have hKc := hK.sub (tys' := [(cI, .int)]) [0] rfl
      refine va_callv (va_runV (As := [.int (bI (if (((a1 &&& (15 : Int32)) + (a2 &&& (15 : Int32))) + a3) ≤ (15 : Int32) then false else true : Bool))]) (rest := []) ⟨hx, hb, hml, hown, hts⟩ (k_X3_setHalf l dC dI cI fO H.size (f_X3_setCarry u (if ((a1 + a2) + a3) ≤ (255 : Int32) then false else true : Bool)) (if (((a1 &&& (15 : Int32)) + (a2 &&& (15 : Int32))) + a3) ≤ (15 : Int32) then false else true : Bool)) (cwV 1 hts gX0_added_X3_setHalf rfl rfl rfl (by decide +kernel) ⟨Nat.le_of_ble_eq_true rfl, Nat.le_of_ble_eq_true rfl⟩) ⟨fun a U g mk q => by obtain ⟨q0, q1, qP, qK, qD⟩ := q; exact ⟨q0, q1, qP, va_K.moved (u := U) (U := U.calling g mk a) (Vm.Alike.refl U.vm) qK, qD⟩, va_recv hKc hPc (ci := 3) (q0 := 0) rfl rfl, fun U hU hW => ⟨rfl, by rw [hU], by rw [hU]; exact hPc, va_K.moved hW.alike hKc, hDc.weaken (fun _ _ _ _ => trivial)⟩⟩ rfl rfl hl.1 rfl (lv_room (Nat.le_of_ble_eq_true rfl)) dX0_added_52 ⟨Nat.le_of_ble_eq_true rfl, Nat.le_of_ble_eq_true rfl⟩) hS (fun q _ h => hFc q h) hFc (fun u9 t H1 locs ht hvm hw hB hz1 hk1 hS => ?_)
      subst hw
      obtain ⟨hP1, hK1, hD1⟩ := hB
      rw [ht] at hP1
      obtain ⟨hP, hD⟩ := jA_F hP hD hk1 hFc hP1 hD1
      clear hPc hDc hKc hFc hz1 hk1 hP1 hK1 hD1 ht hvm
      generalize H1 = H at hP hS ⊢
      refine lv_aload_n hx hb dX0_added_55 rfl (lv_at hl 0 rfl) ?_
      refine va_get (D := (dC, dI)) (ci := 0) (v := .ref fO) (C := RX0) (T := TX0) (N := 1) hx hb hts iX0_added_X0 hown hK hP 0 rfl rfl 0 (by decide) (hts _ qX0_added_0) (fun _ h9 => h9) rfl dX0_added_56 ?_
      refine lv_iload hx hb dX0_added_59 (lv_at hl 4 rfl) ?_
      refine lv_sipush (v := 255) hx hb dX0_added_61 (by decide) ?_
      refine lv_iand hx hb dX0_added_64 ?_
      obtain ⟨hPc, hDc, hFc⟩ := xA_F hP hD hS hA
      have hKc := hK.sub (tys' := [(cI, .int)]) [0] rfl
      refine va_callv (va_runV (As := [.int (((a1 + a2) + a3) &&& (255 : Int32))]) (rest := []) ⟨hx, hb, hml, hown, hts⟩ (k_X3_setLogic l dC dI cI fO H.size (f_X3_setHalf (f_X3_setCarry u (if ((a1 + a2) + a3) ≤ (255 : Int32) then false else true : Bool)) (if (((a1 &&& (15 : Int32)) + (a2 &&& (15 : Int32))) + a3) ≤ (15 : Int32) then false else true : Bool)) (((a1 + a2) + a3) &&& (255 : Int32))) (cwV 1 hts gX0_added_X3_setLogic rfl rfl rfl (by decide +kernel) ⟨Nat.le_of_ble_eq_true rfl, Nat.le_of_ble_eq_true rfl⟩) ⟨fun a U g mk q => by obtain ⟨q0, q1, qP, qK, qD⟩ := q; exact ⟨q0, q1, qP, va_K.moved (u := U) (U := U.calling g mk a) (Vm.Alike.refl U.vm) qK, qD⟩, va_recv hKc hPc (ci := 3) (q0 := 0) rfl rfl, fun U hU hW => ⟨rfl, by rw [hU], by rw [hU]; exact hPc, va_K.moved hW.alike hKc, hDc.weaken (fun _ _ _ _ => trivial)⟩⟩ rfl rfl hl.1 rfl (lv_room (Nat.le_of_ble_eq_true rfl)) dX0_added_65 ⟨Nat.le_of_ble_eq_true rfl, Nat.le_of_ble_eq_true rfl⟩) hS (fun q _ h => hFc q h) hFc (fun u9 t H1 locs ht hvm hw hB hz1 hk1 hS => ?_)
      subst hw
      obtain ⟨hP1, hK1, hD1⟩ := hB
      rw [ht] at hP1
      obtain ⟨hP, hD⟩ := jA_F hP hD hk1 hFc hP1 hD1
      clear hPc hDc hKc hFc hz1 hk1 hP1 hK1 hD1 ht hvm
      generalize H1 = H at hP hS ⊢
      refine lv_iload hx hb dX0_added_68 (lv_at hl 4 rfl) ?_
      refine lv_sipush (v := 255) hx hb dX0_added_70 (by decide) ?_
      refine lv_iand hx hb dX0_added_73 ?_
      exact W.iret (v := (((a1 + a2) + a3) &&& (255 : Int32))) hx hb hr (fun t ht hW => ⟨⟨(((a1 + a2) + a3) &&& (255 : Int32)), (f_X3_setLogic (f_X3_setHalf (f_X3_setCarry u (if ((a1 + a2) + a3) ≤ (255 : Int32) then false else true : Bool)) (if (((a1 &&& (15 : Int32)) + (a2 &&& (15 : Int32))) + a3) ≤ (15 : Int32) then false else true : Bool)) (((a1 + a2) + a3) &&& (255 : Int32))), rfl, ⟨rfl, rfl⟩, by rw [ht]; exact hP, va_K.moved hW.alike hK, hD⟩, hS.F ht⟩) hS.2.2 dX0_added_74
    · skip
      refine lv_icmp_le (tgt := 51) hx hb dX0_added_44 (by decide) (fun c3 => ?_) (fun c3 => ?_)
      · skip
        refine lv_iconst (v := 0) hx hb dX0_added_51 (by decide) ?_
        exact hJ2 false _ _ _ (by simp only [if_pos c3]) hP hS (lv_sub hl [0, 1, 2, 3, 4] rfl)
      · skip
        refine lv_iconst (v := 1) hx hb dX0_added_47 (by decide) ?_
        refine lv_goto (tgt := 52) hx hb dX0_added_48 (by decide) ?_
        exact hJ2 true _ _ _ (by simp only [if_neg c3]) hP hS (lv_sub hl [0, 1, 2, 3, 4] rfl)
  · skip
    refine lv_icmp_le (tgt := 23) hx hb dX0_added_16 (by decide) (fun c4 => ?_) (fun c4 => ?_)
    · skip
      refine lv_iconst (v := 0) hx hb dX0_added_23 (by decide) ?_
      exact hJ1 false _ _ _ (by simp only [if_pos c4]) hP hS (lv_sub hl [1, 2, 3, 4, 0] rfl)
    · skip
      refine lv_iconst (v := 1) hx hb dX0_added_19 (by decide) ?_
      refine lv_goto (tgt := 24) hx hb dX0_added_20 (by decide) ?_
      exact hJ1 true _ _ _ (by simp only [if_neg c4]) hP hS (lv_sub hl [1, 2, 3, 4, 0] rfl)

def f_X0_subtracted (u : FS) (a1 : Int32) (a2 : Int32) (a3 : Int32) : Int32 × FS := ((((a1 - a2) - a3) &&& (255 : Int32)), (f_X3_setLogic (f_X3_setHalf (f_X3_setCarry u (if (0 : Int32) ≤ ((a1 - a2) - a3) then false else true : Bool)) (if (((a1 &&& (15 : Int32)) - (a2 &&& (15 : Int32))) - a3) < (0 : Int32) then false else true : Bool)) (((a1 - a2) - a3) &&& (255 : Int32))))
theorem qX0_subtracted_0 : Cond.fieldLink RX0 9 "DiskMachine$Arithmetic" "flags" "LDiskMachine$Flags;" ∈ wsX0_subtracted := by decide +kernel
theorem iX0_subtracted_X0 : ∀ w ∈ wsX00, w ∈ wsX0_subtracted := by decide +kernel
set_option maxHeartbeats 4000000 in
set_option maxRecDepth 100000 in
theorem k_X0_subtracted (l : Launch) (dC : Nat → ClassId) (dI : Nat → Nat → Nat) (cI : ClassId) (aO fO : Nat) (sz : Nat) (u : FS) (a1 : Int32) (a2 : Int32) (a3 : Int32) : Met l yX0_subtracted wsX0_subtracted ({ frames := 2, cells := 0, slots := 0, locals := 41 }) (va_Pc [.ref aO, .int a1, .int a2, .int a3] (wB dC dI [(cI, .int)] sz (wA cI aO fO u))) (va_Qi (fun (r : Int32) (u' : FS) => r = (f_X0_subtracted u a1 a2 a3).1 ∧ u' = (f_X0_subtracted u a1 a2 a3).2) (fun u' => wE dC dI [(cI, .int)] (va_A (wA cI aO fO u) sz) (wA cI aO fO u')) (va_A (wA cI aO fO u) sz)) 0 0 (va_A (wA cI aO fO u) sz) := by
  refine Met.ofW (cc := cX0_subtracted) (maxL := 5) (ret := (some .int)) (by decide) rfl ?_
  intro p e s m args below meth c s₁ B hml hv
  obtain ⟨rfl, hsz, hP, hK, hD0⟩ := hv
  have hx := B.exec
  have hb := B.bytes
  have hr := B.returns
  have hts := atoms_spec (ws := wsX0_subtracted) B.pre
  have hown : s.vm.findClass RX0 = some m.cls := findClass_of_methodNamed B.named
  have hlocks := B.notSynchronized
  subst hsz
  have hD := hD0.self (sz := s.heap.size)
  generalize hAe : va_A (wA cI aO fO u) s.heap.size = A at hD ⊢
  have hA : ∀ q : Nat, s.heap.size ≤ q → A q := fun q h => by rw [← hAe]; exact Or.inr h
  have hS : va_S A s.heap s.heap [] := va_S.rf
  have hP : va_P (dC, dI) vwCl (wA cI aO fO u) s.heap := hP
  clear hAe hD0
  have hl := lv_entry ([.ref aO, .int a1, .int a2, .int a3]) (n := 5) (Nat.le_of_ble_eq_true rfl)
  rw [lg_entry_eq]
  generalize (lg_sl ([.ref aO, .int a1, .int a2, .int a3]) ++ List.replicate (5 - (lg_sl ([.ref aO, .int a1, .int a2, .int a3])).length) Slot.unset).toArray = ls at hl ⊢
  have hl : lv_has ls 5 [(0, .ref aO), (1, .int a1), (2, .int a2), (3, .int a3)] := hl
  refine jn_H hP hS (fun H locs hP hS => ?_)
  refine lv_iload_n hx hb dX0_subtracted_0 rfl (lv_at hl 1 rfl) ?_
  refine lv_iload_n hx hb dX0_subtracted_1 rfl (lv_at hl 2 rfl) ?_
  refine lv_isub hx hb dX0_subtracted_2 ?_
  refine lv_iload_n hx hb dX0_subtracted_3 rfl (lv_at hl 3 rfl) ?_
  refine lv_isub hx hb dX0_subtracted_4 ?_
  refine lv_istore (lv' := [(4, .int ((a1 - a2) - a3)), (0, .ref aO), (1, .int a1), (2, .int a2), (3, .int a3)]) hx hb dX0_subtracted_5 hl (by decide) rfl (fun ls hl => ?_)
  refine lv_aload_n hx hb dX0_subtracted_7 rfl (lv_at hl 1 rfl) ?_
  refine va_get (D := (dC, dI)) (ci := 0) (v := .ref fO) (C := RX0) (T := TX0) (N := 1) hx hb hts iX0_subtracted_X0 hown hK hP 0 rfl rfl 0 (by decide) (hts _ qX0_subtracted_0) (fun _ h9 => h9) rfl dX0_subtracted_8 ?_
  refine lv_iload hx hb dX0_subtracted_11 (lv_at hl 0 rfl) ?_
  refine jn_b (D := (dC, dI)) (cl := vwCl) (ws := (wA cI aO fO u)) (A := A) (H0 := s.heap) (nL := 5) 21 (if (0 : Int32) ≤ ((a1 - a2) - a3) then false else true : Bool) [(0, .ref aO), (1, .int a1), (2, .int a2), (3, .int a3), (4, .int ((a1 - a2) - a3))] [.ref fO] (fun H locs ls hP hS hl => ?_) (fun hJ1 => ?_)
  · skip
    obtain ⟨hPc, hDc, hFc⟩ := xA_F hP hD hS hA
    have hKc := hK.sub (tys' := [(cI, .int)]) [0] rfl
    refine va_callv (va_runV (As := [.int (bI (if (0 : Int32) ≤ ((a1 - a2) - a3) then false else true : Bool))]) (rest := []) ⟨hx, hb, hml, hown, hts⟩ (k_X3_setCarry l dC dI cI fO H.size u (if (0 : Int32) ≤ ((a1 - a2) - a3) then false else true : Bool)) (cwV 1 hts gX0_subtracted_X3_setCarry rfl rfl rfl (by decide +kernel) ⟨Nat.le_of_ble_eq_true rfl, Nat.le_of_ble_eq_true rfl⟩) ⟨fun a U g mk q => by obtain ⟨q0, q1, qP, qK, qD⟩ := q; exact ⟨q0, q1, qP, va_K.moved (u := U) (U := U.calling g mk a) (Vm.Alike.refl U.vm) qK, qD⟩, va_recv hKc hPc (ci := 3) (q0 := 0) rfl rfl, fun U hU hW => ⟨rfl, by rw [hU], by rw [hU]; exact hPc, va_K.moved hW.alike hKc, hDc.weaken (fun _ _ _ _ => trivial)⟩⟩ rfl rfl hl.1 rfl (lv_room (Nat.le_of_ble_eq_true rfl)) dX0_subtracted_21 ⟨Nat.le_of_ble_eq_true rfl, Nat.le_of_ble_eq_true rfl⟩) hS (fun q _ h => hFc q h) hFc (fun u9 t H1 locs ht hvm hw hB hz1 hk1 hS => ?_)
    subst hw
    obtain ⟨hP1, hK1, hD1⟩ := hB
    rw [ht] at hP1
    obtain ⟨hP, hD⟩ := jA_F hP hD hk1 hFc hP1 hD1
    clear hPc hDc hKc hFc hz1 hk1 hP1 hK1 hD1 ht hvm
    generalize H1 = H at hP hS ⊢
    refine lv_aload_n hx hb dX0_subtracted_24 rfl (lv_at hl 0 rfl) ?_
    refine va_get (D := (dC, dI)) (ci := 0) (v := .ref fO) (C := RX0) (T := TX0) (N := 1) hx hb hts iX0_subtracted_X0 hown hK hP 0 rfl rfl 0 (by decide) (hts _ qX0_subtracted_0) (fun _ h9 => h9) rfl dX0_subtracted_25 ?_
    refine lv_iload_n hx hb dX0_subtracted_28 rfl (lv_at hl 1 rfl) ?_
    refine lv_bipush (v := 15) hx hb dX0_subtracted_29 (by decide) ?_
    refine lv_iand hx hb dX0_subtracted_31 ?_
    refine lv_iload_n hx hb dX0_subtracted_32 rfl (lv_at hl 2 rfl) ?_
    refine lv_bipush (v := 15) hx hb dX0_subtracted_33 (by decide) ?_
    refine lv_iand hx hb dX0_subtracted_35 ?_
    refine lv_isub hx hb dX0_subtracted_36 ?_
    refine lv_iload_n hx hb dX0_subtracted_37 rfl (lv_at hl 3 rfl) ?_
    refine lv_isub hx hb dX0_subtracted_38 ?_
    refine jn_b (D := (dC, dI)) (cl := vwCl) (ws := (wA cI aO fO (f_X3_setCarry u (if (0 : Int32) ≤ ((a1 - a2) - a3) then false else true : Bool)))) (A := A) (H0 := s.heap) (nL := 5) 47 (if (((a1 &&& (15 : Int32)) - (a2 &&& (15 : Int32))) - a3) < (0 : Int32) then false else true : Bool) [(0, .ref aO), (1, .int a1), (2, .int a2), (3, .int a3), (4, .int ((a1 - a2) - a3))] [.ref fO] (fun H locs ls hP hS hl => ?_) (fun hJ2 => ?_)
    · skip
      obtain ⟨hPc, hDc, hFc⟩ := xA_F hP hD hS hA
      have hKc := hK.sub (tys' := [(cI, .int)]) [0] rfl
      refine va_callv (va_runV (As := [.int (bI (if (((a1 &&& (15 : Int32)) - (a2 &&& (15 : Int32))) - a3) < (0 : Int32) then false else true : Bool))]) (rest := []) ⟨hx, hb, hml, hown, hts⟩ (k_X3_setHalf l dC dI cI fO H.size (f_X3_setCarry u (if (0 : Int32) ≤ ((a1 - a2) - a3) then false else true : Bool)) (if (((a1 &&& (15 : Int32)) - (a2 &&& (15 : Int32))) - a3) < (0 : Int32) then false else true : Bool)) (cwV 1 hts gX0_subtracted_X3_setHalf rfl rfl rfl (by decide +kernel) ⟨Nat.le_of_ble_eq_true rfl, Nat.le_of_ble_eq_true rfl⟩) ⟨fun a U g mk q => by obtain ⟨q0, q1, qP, qK, qD⟩ := q; exact ⟨q0, q1, qP, va_K.moved (u := U) (U := U.calling g mk a) (Vm.Alike.refl U.vm) qK, qD⟩, va_recv hKc hPc (ci := 3) (q0 := 0) rfl rfl, fun U hU hW => ⟨rfl, by rw [hU], by rw [hU]; exact hPc, va_K.moved hW.alike hKc, hDc.weaken (fun _ _ _ _ => trivial)⟩⟩ rfl rfl hl.1 rfl (lv_room (Nat.le_of_ble_eq_true rfl)) dX0_subtracted_47 ⟨Nat.le_of_ble_eq_true rfl, Nat.le_of_ble_eq_true rfl⟩) hS (fun q _ h => hFc q h) hFc (fun u9 t H1 locs ht hvm hw hB hz1 hk1 hS => ?_)
      subst hw
      obtain ⟨hP1, hK1, hD1⟩ := hB
      rw [ht] at hP1
      obtain ⟨hP, hD⟩ := jA_F hP hD hk1 hFc hP1 hD1
      clear hPc hDc hKc hFc hz1 hk1 hP1 hK1 hD1 ht hvm
      generalize H1 = H at hP hS ⊢
      refine lv_aload_n hx hb dX0_subtracted_50 rfl (lv_at hl 0 rfl) ?_
      refine va_get (D := (dC, dI)) (ci := 0) (v := .ref fO) (C := RX0) (T := TX0) (N := 1) hx hb hts iX0_subtracted_X0 hown hK hP 0 rfl rfl 0 (by decide) (hts _ qX0_subtracted_0) (fun _ h9 => h9) rfl dX0_subtracted_51 ?_
      refine lv_iload hx hb dX0_subtracted_54 (lv_at hl 4 rfl) ?_
      refine lv_sipush (v := 255) hx hb dX0_subtracted_56 (by decide) ?_
      refine lv_iand hx hb dX0_subtracted_59 ?_
      obtain ⟨hPc, hDc, hFc⟩ := xA_F hP hD hS hA
      have hKc := hK.sub (tys' := [(cI, .int)]) [0] rfl
      refine va_callv (va_runV (As := [.int (((a1 - a2) - a3) &&& (255 : Int32))]) (rest := []) ⟨hx, hb, hml, hown, hts⟩ (k_X3_setLogic l dC dI cI fO H.size (f_X3_setHalf (f_X3_setCarry u (if (0 : Int32) ≤ ((a1 - a2) - a3) then false else true : Bool)) (if (((a1 &&& (15 : Int32)) - (a2 &&& (15 : Int32))) - a3) < (0 : Int32) then false else true : Bool)) (((a1 - a2) - a3) &&& (255 : Int32))) (cwV 1 hts gX0_subtracted_X3_setLogic rfl rfl rfl (by decide +kernel) ⟨Nat.le_of_ble_eq_true rfl, Nat.le_of_ble_eq_true rfl⟩) ⟨fun a U g mk q => by obtain ⟨q0, q1, qP, qK, qD⟩ := q; exact ⟨q0, q1, qP, va_K.moved (u := U) (U := U.calling g mk a) (Vm.Alike.refl U.vm) qK, qD⟩, va_recv hKc hPc (ci := 3) (q0 := 0) rfl rfl, fun U hU hW => ⟨rfl, by rw [hU], by rw [hU]; exact hPc, va_K.moved hW.alike hKc, hDc.weaken (fun _ _ _ _ => trivial)⟩⟩ rfl rfl hl.1 rfl (lv_room (Nat.le_of_ble_eq_true rfl)) dX0_subtracted_60 ⟨Nat.le_of_ble_eq_true rfl, Nat.le_of_ble_eq_true rfl⟩) hS (fun q _ h => hFc q h) hFc (fun u9 t H1 locs ht hvm hw hB hz1 hk1 hS => ?_)
      subst hw
      obtain ⟨hP1, hK1, hD1⟩ := hB
      rw [ht] at hP1
      obtain ⟨hP, hD⟩ := jA_F hP hD hk1 hFc hP1 hD1
      clear hPc hDc hKc hFc hz1 hk1 hP1 hK1 hD1 ht hvm
      generalize H1 = H at hP hS ⊢
      refine lv_iload hx hb dX0_subtracted_63 (lv_at hl 4 rfl) ?_
      refine lv_sipush (v := 255) hx hb dX0_subtracted_65 (by decide) ?_
      refine lv_iand hx hb dX0_subtracted_68 ?_
      exact W.iret (v := (((a1 - a2) - a3) &&& (255 : Int32))) hx hb hr (fun t ht hW => ⟨⟨(((a1 - a2) - a3) &&& (255 : Int32)), (f_X3_setLogic (f_X3_setHalf (f_X3_setCarry u (if (0 : Int32) ≤ ((a1 - a2) - a3) then false else true : Bool)) (if (((a1 &&& (15 : Int32)) - (a2 &&& (15 : Int32))) - a3) < (0 : Int32) then false else true : Bool)) (((a1 - a2) - a3) &&& (255 : Int32))), rfl, ⟨rfl, rfl⟩, by rw [ht]; exact hP, va_K.moved hW.alike hK, hD⟩, hS.F ht⟩) hS.2.2 dX0_subtracted_69
    · skip
      refine lv_if_lt (tgt := 46) hx hb dX0_subtracted_39 (by decide) (fun c3 => ?_) (fun c3 => ?_)
      · skip
        refine lv_iconst (v := 0) hx hb dX0_subtracted_46 (by decide) ?_
        exact hJ2 false _ _ _ (by simp only [if_pos c3]) hP hS (lv_sub hl [0, 1, 2, 3, 4] rfl)
      · skip
        refine lv_iconst (v := 1) hx hb dX0_subtracted_42 (by decide) ?_
        refine lv_goto (tgt := 47) hx hb dX0_subtracted_43 (by decide) ?_
        exact hJ2 true _ _ _ (by simp only [if_neg c3]) hP hS (lv_sub hl [0, 1, 2, 3, 4] rfl)
  · skip
    refine lv_if_ge (tgt := 20) hx hb dX0_subtracted_13 (by decide) (fun c4 => ?_) (fun c4 => ?_)
    · skip
      refine lv_iconst (v := 0) hx hb dX0_subtracted_20 (by decide) ?_
      exact hJ1 false _ _ _ (by simp only [if_pos c4]) hP hS (lv_sub hl [1, 2, 3, 4, 0] rfl)
    · skip
      refine lv_iconst (v := 1) hx hb dX0_subtracted_16 (by decide) ?_
      refine lv_goto (tgt := 21) hx hb dX0_subtracted_17 (by decide) ?_
      exact hJ1 true _ _ _ (by simp only [if_neg c4]) hP hS (lv_sub hl [1, 2, 3, 4, 0] rfl)

def f_X0_bitwise (u : FS) (a1 : Int32) (a2 : Bool) : Int32 × FS := (a1, (f_X3_setLogic (f_X3_setHalf (f_X3_setCarry u false) a2) a1))
theorem qX0_bitwise_0 : Cond.fieldLink RX0 9 "DiskMachine$Arithmetic" "flags" "LDiskMachine$Flags;" ∈ wsX0_bitwise := by decide +kernel
theorem iX0_bitwise_X0 : ∀ w ∈ wsX00, w ∈ wsX0_bitwise := by decide +kernel
set_option maxHeartbeats 4000000 in
set_option maxRecDepth 100000 in
theorem k_X0_bitwise (l : Launch) (dC : Nat → ClassId) (dI : Nat → Nat → Nat) (cI : ClassId) (aO fO : Nat) (sz : Nat) (u : FS) (a1 : Int32) (a2 : Bool) : Met l yX0_bitwise wsX0_bitwise ({ frames := 2, cells := 0, slots := 0, locals := 41 }) (va_Pc [.ref aO, .int a1, .int (bI a2)] (wB dC dI [(cI, .int)] sz (wA cI aO fO u))) (va_Qi (fun (r : Int32) (u' : FS) => r = (f_X0_bitwise u a1 a2).1 ∧ u' = (f_X0_bitwise u a1 a2).2) (fun u' => wE dC dI [(cI, .int)] (va_A (wA cI aO fO u) sz) (wA cI aO fO u')) (va_A (wA cI aO fO u) sz)) 0 0 (va_A (wA cI aO fO u) sz) := by
  refine Met.ofW (cc := cX0_bitwise) (maxL := 3) (ret := (some .int)) (by decide) rfl ?_
  intro p e s m args below meth c s₁ B hml hv
  obtain ⟨rfl, hsz, hP, hK, hD0⟩ := hv
  have hx := B.exec
  have hb := B.bytes
  have hr := B.returns
  have hts := atoms_spec (ws := wsX0_bitwise) B.pre
  have hown : s.vm.findClass RX0 = some m.cls := findClass_of_methodNamed B.named
  have hlocks := B.notSynchronized
  subst hsz
  have hD := hD0.self (sz := s.heap.size)
  generalize hAe : va_A (wA cI aO fO u) s.heap.size = A at hD ⊢
  have hA : ∀ q : Nat, s.heap.size ≤ q → A q := fun q h => by rw [← hAe]; exact Or.inr h
  have hS : va_S A s.heap s.heap [] := va_S.rf
  have hP : va_P (dC, dI) vwCl (wA cI aO fO u) s.heap := hP
  clear hAe hD0
  have hl := lv_entry ([.ref aO, .int a1, .int (bI a2)]) (n := 3) (Nat.le_of_ble_eq_true rfl)
  rw [lg_entry_eq]
  generalize (lg_sl ([.ref aO, .int a1, .int (bI a2)]) ++ List.replicate (3 - (lg_sl ([.ref aO, .int a1, .int (bI a2)])).length) Slot.unset).toArray = ls at hl ⊢
  have hl : lv_has ls 3 [(0, .ref aO), (1, .int a1), (2, .int (bI a2))] := hl
  refine jn_H hP hS (fun H locs hP hS => ?_)
  refine lv_aload_n hx hb dX0_bitwise_0 rfl (lv_at hl 0 rfl) ?_
  refine va_get (D := (dC, dI)) (ci := 0) (v := .ref fO) (C := RX0) (T := TX0) (N := 1) hx hb hts iX0_bitwise_X0 hown hK hP 0 rfl rfl 0 (by decide) (hts _ qX0_bitwise_0) (fun _ h9 => h9) rfl dX0_bitwise_1 ?_
  refine lv_iconst (v := 0) hx hb dX0_bitwise_4 (by decide) ?_
  obtain ⟨hPc, hDc, hFc⟩ := xA_F hP hD hS hA
  have hKc := hK.sub (tys' := [(cI, .int)]) [0] rfl
  refine va_callv (va_runV (As := [.int (bI false)]) (rest := []) ⟨hx, hb, hml, hown, hts⟩ (k_X3_setCarry l dC dI cI fO H.size u false) (cwV 1 hts gX0_bitwise_X3_setCarry rfl rfl rfl (by decide +kernel) ⟨Nat.le_of_ble_eq_true rfl, Nat.le_of_ble_eq_true rfl⟩) ⟨fun a U g mk q => by obtain ⟨q0, q1, qP, qK, qD⟩ := q; exact ⟨q0, q1, qP, va_K.moved (u := U) (U := U.calling g mk a) (Vm.Alike.refl U.vm) qK, qD⟩, va_recv hKc hPc (ci := 3) (q0 := 0) rfl rfl, fun U hU hW => ⟨rfl, by rw [hU], by rw [hU]; exact hPc, va_K.moved hW.alike hKc, hDc.weaken (fun _ _ _ _ => trivial)⟩⟩ rfl rfl hl.1 rfl (lv_room (Nat.le_of_ble_eq_true rfl)) dX0_bitwise_5 ⟨Nat.le_of_ble_eq_true rfl, Nat.le_of_ble_eq_true rfl⟩) hS (fun q _ h => hFc q h) hFc (fun u9 t H1 locs ht hvm hw hB hz1 hk1 hS => ?_)
  subst hw
  obtain ⟨hP1, hK1, hD1⟩ := hB
  rw [ht] at hP1
  obtain ⟨hP, hD⟩ := jA_F hP hD hk1 hFc hP1 hD1
  clear hPc hDc hKc hFc hz1 hk1 hP1 hK1 hD1 ht hvm
  generalize H1 = H at hP hS ⊢
  refine lv_aload_n hx hb dX0_bitwise_8 rfl (lv_at hl 0 rfl) ?_
  refine va_get (D := (dC, dI)) (ci := 0) (v := .ref fO) (C := RX0) (T := TX0) (N := 1) hx hb hts iX0_bitwise_X0 hown hK hP 0 rfl rfl 0 (by decide) (hts _ qX0_bitwise_0) (fun _ h9 => h9) rfl dX0_bitwise_9 ?_
  refine lv_iload_n hx hb dX0_bitwise_12 rfl (lv_at hl 2 rfl) ?_
  obtain ⟨hPc, hDc, hFc⟩ := xA_F hP hD hS hA
  have hKc := hK.sub (tys' := [(cI, .int)]) [0] rfl
  refine va_callv (va_runV (As := [.int (bI a2)]) (rest := []) ⟨hx, hb, hml, hown, hts⟩ (k_X3_setHalf l dC dI cI fO H.size (f_X3_setCarry u false) a2) (cwV 1 hts gX0_bitwise_X3_setHalf rfl rfl rfl (by decide +kernel) ⟨Nat.le_of_ble_eq_true rfl, Nat.le_of_ble_eq_true rfl⟩) ⟨fun a U g mk q => by obtain ⟨q0, q1, qP, qK, qD⟩ := q; exact ⟨q0, q1, qP, va_K.moved (u := U) (U := U.calling g mk a) (Vm.Alike.refl U.vm) qK, qD⟩, va_recv hKc hPc (ci := 3) (q0 := 0) rfl rfl, fun U hU hW => ⟨rfl, by rw [hU], by rw [hU]; exact hPc, va_K.moved hW.alike hKc, hDc.weaken (fun _ _ _ _ => trivial)⟩⟩ rfl rfl hl.1 rfl (lv_room (Nat.le_of_ble_eq_true rfl)) dX0_bitwise_13 ⟨Nat.le_of_ble_eq_true rfl, Nat.le_of_ble_eq_true rfl⟩) hS (fun q _ h => hFc q h) hFc (fun u9 t H1 locs ht hvm hw hB hz1 hk1 hS => ?_)
  subst hw
  obtain ⟨hP1, hK1, hD1⟩ := hB
  rw [ht] at hP1
  obtain ⟨hP, hD⟩ := jA_F hP hD hk1 hFc hP1 hD1
  clear hPc hDc hKc hFc hz1 hk1 hP1 hK1 hD1 ht hvm
  generalize H1 = H at hP hS ⊢
  refine lv_aload_n hx hb dX0_bitwise_16 rfl (lv_at hl 0 rfl) ?_
  refine va_get (D := (dC, dI)) (ci := 0) (v := .ref fO) (C := RX0) (T := TX0) (N := 1) hx hb hts iX0_bitwise_X0 hown hK hP 0 rfl rfl 0 (by decide) (hts _ qX0_bitwise_0) (fun _ h9 => h9) rfl dX0_bitwise_17 ?_
  refine lv_iload_n hx hb dX0_bitwise_20 rfl (lv_at hl 1 rfl) ?_
  obtain ⟨hPc, hDc, hFc⟩ := xA_F hP hD hS hA
  have hKc := hK.sub (tys' := [(cI, .int)]) [0] rfl
  refine va_callv (va_runV (As := [.int a1]) (rest := []) ⟨hx, hb, hml, hown, hts⟩ (k_X3_setLogic l dC dI cI fO H.size (f_X3_setHalf (f_X3_setCarry u false) a2) a1) (cwV 1 hts gX0_bitwise_X3_setLogic rfl rfl rfl (by decide +kernel) ⟨Nat.le_of_ble_eq_true rfl, Nat.le_of_ble_eq_true rfl⟩) ⟨fun a U g mk q => by obtain ⟨q0, q1, qP, qK, qD⟩ := q; exact ⟨q0, q1, qP, va_K.moved (u := U) (U := U.calling g mk a) (Vm.Alike.refl U.vm) qK, qD⟩, va_recv hKc hPc (ci := 3) (q0 := 0) rfl rfl, fun U hU hW => ⟨rfl, by rw [hU], by rw [hU]; exact hPc, va_K.moved hW.alike hKc, hDc.weaken (fun _ _ _ _ => trivial)⟩⟩ rfl rfl hl.1 rfl (lv_room (Nat.le_of_ble_eq_true rfl)) dX0_bitwise_21 ⟨Nat.le_of_ble_eq_true rfl, Nat.le_of_ble_eq_true rfl⟩) hS (fun q _ h => hFc q h) hFc (fun u9 t H1 locs ht hvm hw hB hz1 hk1 hS => ?_)
  subst hw
  obtain ⟨hP1, hK1, hD1⟩ := hB
  rw [ht] at hP1
  obtain ⟨hP, hD⟩ := jA_F hP hD hk1 hFc hP1 hD1
  clear hPc hDc hKc hFc hz1 hk1 hP1 hK1 hD1 ht hvm
  generalize H1 = H at hP hS ⊢
  refine lv_iload_n hx hb dX0_bitwise_24 rfl (lv_at hl 1 rfl) ?_
  exact W.iret (v := a1) hx hb hr (fun t ht hW => ⟨⟨a1, (f_X3_setLogic (f_X3_setHalf (f_X3_setCarry u false) a2) a1), rfl, ⟨rfl, rfl⟩, by rw [ht]; exact hP, va_K.moved hW.alike hK, hD⟩, hS.F ht⟩) hS.2.2 dX0_bitwise_25

def f_X0_oneMore (u : FS) (a1 : Int32) : Int32 × FS := (((a1 + (1 : Int32)) &&& (255 : Int32)), (f_X3_setLogic (f_X3_setHalf u (if (((a1 + (1 : Int32)) &&& (255 : Int32)) &&& (15 : Int32)) = (0 : Int32) then true else false : Bool)) ((a1 + (1 : Int32)) &&& (255 : Int32))))
theorem qX0_oneMore_0 : Cond.fieldLink RX0 9 "DiskMachine$Arithmetic" "flags" "LDiskMachine$Flags;" ∈ wsX0_oneMore := by decide +kernel
theorem iX0_oneMore_X0 : ∀ w ∈ wsX00, w ∈ wsX0_oneMore := by decide +kernel
set_option maxHeartbeats 4000000 in
set_option maxRecDepth 100000 in
theorem k_X0_oneMore (l : Launch) (dC : Nat → ClassId) (dI : Nat → Nat → Nat) (cI : ClassId) (aO fO : Nat) (sz : Nat) (u : FS) (a1 : Int32) : Met l yX0_oneMore wsX0_oneMore ({ frames := 2, cells := 0, slots := 0, locals := 41 }) (va_Pc [.ref aO, .int a1] (wB dC dI [(cI, .int)] sz (wA cI aO fO u))) (va_Qi (fun (r : Int32) (u' : FS) => r = (f_X0_oneMore u a1).1 ∧ u' = (f_X0_oneMore u a1).2) (fun u' => wE dC dI [(cI, .int)] (va_A (wA cI aO fO u) sz) (wA cI aO fO u')) (va_A (wA cI aO fO u) sz)) 0 0 (va_A (wA cI aO fO u) sz) := by
  refine Met.ofW (cc := cX0_oneMore) (maxL := 3) (ret := (some .int)) (by decide) rfl ?_
  intro p e s m args below meth c s₁ B hml hv
  obtain ⟨rfl, hsz, hP, hK, hD0⟩ := hv
  have hx := B.exec
  have hb := B.bytes
  have hr := B.returns
  have hts := atoms_spec (ws := wsX0_oneMore) B.pre
  have hown : s.vm.findClass RX0 = some m.cls := findClass_of_methodNamed B.named
  have hlocks := B.notSynchronized
  subst hsz
  have hD := hD0.self (sz := s.heap.size)
  generalize hAe : va_A (wA cI aO fO u) s.heap.size = A at hD ⊢
  have hA : ∀ q : Nat, s.heap.size ≤ q → A q := fun q h => by rw [← hAe]; exact Or.inr h
  have hS : va_S A s.heap s.heap [] := va_S.rf
  have hP : va_P (dC, dI) vwCl (wA cI aO fO u) s.heap := hP
  clear hAe hD0
  have hl := lv_entry ([.ref aO, .int a1]) (n := 3) (Nat.le_of_ble_eq_true rfl)
  rw [lg_entry_eq]
  generalize (lg_sl ([.ref aO, .int a1]) ++ List.replicate (3 - (lg_sl ([.ref aO, .int a1])).length) Slot.unset).toArray = ls at hl ⊢
  have hl : lv_has ls 3 [(0, .ref aO), (1, .int a1)] := hl
  refine jn_H hP hS (fun H locs hP hS => ?_)
  refine lv_iload_n hx hb dX0_oneMore_0 rfl (lv_at hl 1 rfl) ?_
  refine lv_iconst (v := 1) hx hb dX0_oneMore_1 (by decide) ?_
  refine lv_iadd hx hb dX0_oneMore_2 ?_
  refine lv_sipush (v := 255) hx hb dX0_oneMore_3 (by decide) ?_
  refine lv_iand hx hb dX0_oneMore_6 ?_
  refine lv_istore_n (lv' := [(2, .int ((a1 + (1 : Int32)) &&& (255 : Int32))), (0, .ref aO), (1, .int a1)]) hx hb dX0_oneMore_7 rfl hl (by decide) rfl (fun ls hl => ?_)
  refine lv_aload_n hx hb dX0_oneMore_8 rfl (lv_at hl 1 rfl) ?_
  refine va_get (D := (dC, dI)) (ci := 0) (v := .ref fO) (C := RX0) (T := TX0) (N := 1) hx hb hts iX0_oneMore_X0 hown hK hP 0 rfl rfl 0 (by decide) (hts _ qX0_oneMore_0) (fun _ h9 => h9) rfl dX0_oneMore_9 ?_
  refine lv_iload_n hx hb dX0_oneMore_12 rfl (lv_at hl 0 rfl) ?_
  refine lv_bipush (v := 15) hx hb dX0_oneMore_13 (by decide) ?_
  refine lv_iand hx hb dX0_oneMore_15 ?_
  refine jn_b (D := (dC, dI)) (cl := vwCl) (ws := (wA cI aO fO u)) (A := A) (H0 := s.heap) (nL := 3) 24 (if (((a1 + (1 : Int32)) &&& (255 : Int32)) &&& (15 : Int32)) = (0 : Int32) then true else false : Bool) [(0, .ref aO), (1, .int a1), (2, .int ((a1 + (1 : Int32)) &&& (255 : Int32)))] [.ref fO] (fun H locs ls hP hS hl => ?_) (fun hJ1 => ?_)
  · skip
    obtain ⟨hPc, hDc, hFc⟩ := xA_F hP hD hS hA
    have hKc := hK.sub (tys' := [(cI, .int)]) [0] rfl
    refine va_callv (va_runV (As := [.int (bI (if (((a1 + (1 : Int32)) &&& (255 : Int32)) &&& (15 : Int32)) = (0 : Int32) then true else false : Bool))]) (rest := []) ⟨hx, hb, hml, hown, hts⟩ (k_X3_setHalf l dC dI cI fO H.size u (if (((a1 + (1 : Int32)) &&& (255 : Int32)) &&& (15 : Int32)) = (0 : Int32) then true else false : Bool)) (cwV 1 hts gX0_oneMore_X3_setHalf rfl rfl rfl (by decide +kernel) ⟨Nat.le_of_ble_eq_true rfl, Nat.le_of_ble_eq_true rfl⟩) ⟨fun a U g mk q => by obtain ⟨q0, q1, qP, qK, qD⟩ := q; exact ⟨q0, q1, qP, va_K.moved (u := U) (U := U.calling g mk a) (Vm.Alike.refl U.vm) qK, qD⟩, va_recv hKc hPc (ci := 3) (q0 := 0) rfl rfl, fun U hU hW => ⟨rfl, by rw [hU], by rw [hU]; exact hPc, va_K.moved hW.alike hKc, hDc.weaken (fun _ _ _ _ => trivial)⟩⟩ rfl rfl hl.1 rfl (lv_room (Nat.le_of_ble_eq_true rfl)) dX0_oneMore_24 ⟨Nat.le_of_ble_eq_true rfl, Nat.le_of_ble_eq_true rfl⟩) hS (fun q _ h => hFc q h) hFc (fun u9 t H1 locs ht hvm hw hB hz1 hk1 hS => ?_)
    subst hw
    obtain ⟨hP1, hK1, hD1⟩ := hB
    rw [ht] at hP1
    obtain ⟨hP, hD⟩ := jA_F hP hD hk1 hFc hP1 hD1
    clear hPc hDc hKc hFc hz1 hk1 hP1 hK1 hD1 ht hvm
    generalize H1 = H at hP hS ⊢
    refine lv_aload_n hx hb dX0_oneMore_27 rfl (lv_at hl 0 rfl) ?_
    refine va_get (D := (dC, dI)) (ci := 0) (v := .ref fO) (C := RX0) (T := TX0) (N := 1) hx hb hts iX0_oneMore_X0 hown hK hP 0 rfl rfl 0 (by decide) (hts _ qX0_oneMore_0) (fun _ h9 => h9) rfl dX0_oneMore_28 ?_
    refine lv_iload_n hx hb dX0_oneMore_31 rfl (lv_at hl 2 rfl) ?_
    obtain ⟨hPc, hDc, hFc⟩ := xA_F hP hD hS hA
    have hKc := hK.sub (tys' := [(cI, .int)]) [0] rfl
    refine va_callv (va_runV (As := [.int ((a1 + (1 : Int32)) &&& (255 : Int32))]) (rest := []) ⟨hx, hb, hml, hown, hts⟩ (k_X3_setLogic l dC dI cI fO H.size (f_X3_setHalf u (if (((a1 + (1 : Int32)) &&& (255 : Int32)) &&& (15 : Int32)) = (0 : Int32) then true else false : Bool)) ((a1 + (1 : Int32)) &&& (255 : Int32))) (cwV 1 hts gX0_oneMore_X3_setLogic rfl rfl rfl (by decide +kernel) ⟨Nat.le_of_ble_eq_true rfl, Nat.le_of_ble_eq_true rfl⟩) ⟨fun a U g mk q => by obtain ⟨q0, q1, qP, qK, qD⟩ := q; exact ⟨q0, q1, qP, va_K.moved (u := U) (U := U.calling g mk a) (Vm.Alike.refl U.vm) qK, qD⟩, va_recv hKc hPc (ci := 3) (q0 := 0) rfl rfl, fun U hU hW => ⟨rfl, by rw [hU], by rw [hU]; exact hPc, va_K.moved hW.alike hKc, hDc.weaken (fun _ _ _ _ => trivial)⟩⟩ rfl rfl hl.1 rfl (lv_room (Nat.le_of_ble_eq_true rfl)) dX0_oneMore_32 ⟨Nat.le_of_ble_eq_true rfl, Nat.le_of_ble_eq_true rfl⟩) hS (fun q _ h => hFc q h) hFc (fun u9 t H1 locs ht hvm hw hB hz1 hk1 hS => ?_)
    subst hw
    obtain ⟨hP1, hK1, hD1⟩ := hB
    rw [ht] at hP1
    obtain ⟨hP, hD⟩ := jA_F hP hD hk1 hFc hP1 hD1
    clear hPc hDc hKc hFc hz1 hk1 hP1 hK1 hD1 ht hvm
    generalize H1 = H at hP hS ⊢
    refine lv_iload_n hx hb dX0_oneMore_35 rfl (lv_at hl 2 rfl) ?_
    exact W.iret (v := ((a1 + (1 : Int32)) &&& (255 : Int32))) hx hb hr (fun t ht hW => ⟨⟨((a1 + (1 : Int32)) &&& (255 : Int32)), (f_X3_setLogic (f_X3_setHalf u (if (((a1 + (1 : Int32)) &&& (255 : Int32)) &&& (15 : Int32)) = (0 : Int32) then true else false : Bool)) ((a1 + (1 : Int32)) &&& (255 : Int32))), rfl, ⟨rfl, rfl⟩, by rw [ht]; exact hP, va_K.moved hW.alike hK, hD⟩, hS.F ht⟩) hS.2.2 dX0_oneMore_36
  · skip
    refine lv_if_ne (tgt := 23) hx hb dX0_oneMore_16 (by decide) (fun c2 => ?_) (fun c2 => ?_)
    · skip
      refine lv_iconst (v := 0) hx hb dX0_oneMore_23 (by decide) ?_
      exact hJ1 false _ _ _ (by simp only [if_neg c2]) hP hS (lv_sub hl [1, 2, 0] rfl)
    · skip
      refine lv_iconst (v := 1) hx hb dX0_oneMore_19 (by decide) ?_
      refine lv_goto (tgt := 24) hx hb dX0_oneMore_20 (by decide) ?_
      exact hJ1 true _ _ _ (by simp only [if_pos c2]) hP hS (lv_sub hl [1, 2, 0] rfl)

def f_X0_oneLess (u : FS) (a1 : Int32) : Int32 × FS := (((a1 - (1 : Int32)) &&& (255 : Int32)), (f_X3_setLogic (f_X3_setHalf u (if (((a1 - (1 : Int32)) &&& (255 : Int32)) &&& (15 : Int32)) = (15 : Int32) then false else true : Bool)) ((a1 - (1 : Int32)) &&& (255 : Int32))))
theorem qX0_oneLess_0 : Cond.fieldLink RX0 9 "DiskMachine$Arithmetic" "flags" "LDiskMachine$Flags;" ∈ wsX0_oneLess := by decide +kernel
theorem iX0_oneLess_X0 : ∀ w ∈ wsX00, w ∈ wsX0_oneLess := by decide +kernel
set_option maxHeartbeats 4000000 in
set_option maxRecDepth 100000 in
theorem k_X0_oneLess (l : Launch) (dC : Nat → ClassId) (dI : Nat → Nat → Nat) (cI : ClassId) (aO fO : Nat) (sz : Nat) (u : FS) (a1 : Int32) : Met l yX0_oneLess wsX0_oneLess ({ frames := 2, cells := 0, slots := 0, locals := 41 }) (va_Pc [.ref aO, .int a1] (wB dC dI [(cI, .int)] sz (wA cI aO fO u))) (va_Qi (fun (r : Int32) (u' : FS) => r = (f_X0_oneLess u a1).1 ∧ u' = (f_X0_oneLess u a1).2) (fun u' => wE dC dI [(cI, .int)] (va_A (wA cI aO fO u) sz) (wA cI aO fO u')) (va_A (wA cI aO fO u) sz)) 0 0 (va_A (wA cI aO fO u) sz) := by
  refine Met.ofW (cc := cX0_oneLess) (maxL := 3) (ret := (some .int)) (by decide) rfl ?_
  intro p e s m args below meth c s₁ B hml hv
  obtain ⟨rfl, hsz, hP, hK, hD0⟩ := hv
  have hx := B.exec
  have hb := B.bytes
  have hr := B.returns
  have hts := atoms_spec (ws := wsX0_oneLess) B.pre
  have hown : s.vm.findClass RX0 = some m.cls := findClass_of_methodNamed B.named
  have hlocks := B.notSynchronized
  subst hsz
  have hD := hD0.self (sz := s.heap.size)
  generalize hAe : va_A (wA cI aO fO u) s.heap.size = A at hD ⊢
  have hA : ∀ q : Nat, s.heap.size ≤ q → A q := fun q h => by rw [← hAe]; exact Or.inr h
  have hS : va_S A s.heap s.heap [] := va_S.rf
  have hP : va_P (dC, dI) vwCl (wA cI aO fO u) s.heap := hP
  clear hAe hD0
  have hl := lv_entry ([.ref aO, .int a1]) (n := 3) (Nat.le_of_ble_eq_true rfl)
  rw [lg_entry_eq]
  generalize (lg_sl ([.ref aO, .int a1]) ++ List.replicate (3 - (lg_sl ([.ref aO, .int a1])).length) Slot.unset).toArray = ls at hl ⊢
  have hl : lv_has ls 3 [(0, .ref aO), (1, .int a1)] := hl
  refine jn_H hP hS (fun H locs hP hS => ?_)
  refine lv_iload_n hx hb dX0_oneLess_0 rfl (lv_at hl 1 rfl) ?_
  refine lv_iconst (v := 1) hx hb dX0_oneLess_1 (by decide) ?_
  refine lv_isub hx hb dX0_oneLess_2 ?_
  refine lv_sipush (v := 255) hx hb dX0_oneLess_3 (by decide) ?_
  refine lv_iand hx hb dX0_oneLess_6 ?_
  refine lv_istore_n (lv' := [(2, .int ((a1 - (1 : Int32)) &&& (255 : Int32))), (0, .ref aO), (1, .int a1)]) hx hb dX0_oneLess_7 rfl hl (by decide) rfl (fun ls hl => ?_)
  refine lv_aload_n hx hb dX0_oneLess_8 rfl (lv_at hl 1 rfl) ?_
  refine va_get (D := (dC, dI)) (ci := 0) (v := .ref fO) (C := RX0) (T := TX0) (N := 1) hx hb hts iX0_oneLess_X0 hown hK hP 0 rfl rfl 0 (by decide) (hts _ qX0_oneLess_0) (fun _ h9 => h9) rfl dX0_oneLess_9 ?_
  refine lv_iload_n hx hb dX0_oneLess_12 rfl (lv_at hl 0 rfl) ?_
  refine lv_bipush (v := 15) hx hb dX0_oneLess_13 (by decide) ?_
  refine lv_iand hx hb dX0_oneLess_15 ?_
  refine lv_bipush (v := 15) hx hb dX0_oneLess_16 (by decide) ?_
  refine jn_b (D := (dC, dI)) (cl := vwCl) (ws := (wA cI aO fO u)) (A := A) (H0 := s.heap) (nL := 3) 26 (if (((a1 - (1 : Int32)) &&& (255 : Int32)) &&& (15 : Int32)) = (15 : Int32) then false else true : Bool) [(0, .ref aO), (1, .int a1), (2, .int ((a1 - (1 : Int32)) &&& (255 : Int32)))] [.ref fO] (fun H locs ls hP hS hl => ?_) (fun hJ1 => ?_)
  · skip
    obtain ⟨hPc, hDc, hFc⟩ := xA_F hP hD hS hA
    have hKc := hK.sub (tys' := [(cI, .int)]) [0] rfl
    refine va_callv (va_runV (As := [.int (bI (if (((a1 - (1 : Int32)) &&& (255 : Int32)) &&& (15 : Int32)) = (15 : Int32) then false else true : Bool))]) (rest := []) ⟨hx, hb, hml, hown, hts⟩ (k_X3_setHalf l dC dI cI fO H.size u (if (((a1 - (1 : Int32)) &&& (255 : Int32)) &&& (15 : Int32)) = (15 : Int32) then false else true : Bool)) (cwV 1 hts gX0_oneLess_X3_setHalf rfl rfl rfl (by decide +kernel) ⟨Nat.le_of_ble_eq_true rfl, Nat.le_of_ble_eq_true rfl⟩) ⟨fun a U g mk q => by obtain ⟨q0, q1, qP, qK, qD⟩ := q; exact ⟨q0, q1, qP, va_K.moved (u := U) (U := U.calling g mk a) (Vm.Alike.refl U.vm) qK, qD⟩, va_recv hKc hPc (ci := 3) (q0 := 0) rfl rfl, fun U hU hW => ⟨rfl, by rw [hU], by rw [hU]; exact hPc, va_K.moved hW.alike hKc, hDc.weaken (fun _ _ _ _ => trivial)⟩⟩ rfl rfl hl.1 rfl (lv_room (Nat.le_of_ble_eq_true rfl)) dX0_oneLess_26 ⟨Nat.le_of_ble_eq_true rfl, Nat.le_of_ble_eq_true rfl⟩) hS (fun q _ h => hFc q h) hFc (fun u9 t H1 locs ht hvm hw hB hz1 hk1 hS => ?_)
    subst hw
    obtain ⟨hP1, hK1, hD1⟩ := hB
    rw [ht] at hP1
    obtain ⟨hP, hD⟩ := jA_F hP hD hk1 hFc hP1 hD1
    clear hPc hDc hKc hFc hz1 hk1 hP1 hK1 hD1 ht hvm
    generalize H1 = H at hP hS ⊢
    refine lv_aload_n hx hb dX0_oneLess_29 rfl (lv_at hl 0 rfl) ?_
    refine va_get (D := (dC, dI)) (ci := 0) (v := .ref fO) (C := RX0) (T := TX0) (N := 1) hx hb hts iX0_oneLess_X0 hown hK hP 0 rfl rfl 0 (by decide) (hts _ qX0_oneLess_0) (fun _ h9 => h9) rfl dX0_oneLess_30 ?_
    refine lv_iload_n hx hb dX0_oneLess_33 rfl (lv_at hl 2 rfl) ?_
    obtain ⟨hPc, hDc, hFc⟩ := xA_F hP hD hS hA
    have hKc := hK.sub (tys' := [(cI, .int)]) [0] rfl
    refine va_callv (va_runV (As := [.int ((a1 - (1 : Int32)) &&& (255 : Int32))]) (rest := []) ⟨hx, hb, hml, hown, hts⟩ (k_X3_setLogic l dC dI cI fO H.size (f_X3_setHalf u (if (((a1 - (1 : Int32)) &&& (255 : Int32)) &&& (15 : Int32)) = (15 : Int32) then false else true : Bool)) ((a1 - (1 : Int32)) &&& (255 : Int32))) (cwV 1 hts gX0_oneLess_X3_setLogic rfl rfl rfl (by decide +kernel) ⟨Nat.le_of_ble_eq_true rfl, Nat.le_of_ble_eq_true rfl⟩) ⟨fun a U g mk q => by obtain ⟨q0, q1, qP, qK, qD⟩ := q; exact ⟨q0, q1, qP, va_K.moved (u := U) (U := U.calling g mk a) (Vm.Alike.refl U.vm) qK, qD⟩, va_recv hKc hPc (ci := 3) (q0 := 0) rfl rfl, fun U hU hW => ⟨rfl, by rw [hU], by rw [hU]; exact hPc, va_K.moved hW.alike hKc, hDc.weaken (fun _ _ _ _ => trivial)⟩⟩ rfl rfl hl.1 rfl (lv_room (Nat.le_of_ble_eq_true rfl)) dX0_oneLess_34 ⟨Nat.le_of_ble_eq_true rfl, Nat.le_of_ble_eq_true rfl⟩) hS (fun q _ h => hFc q h) hFc (fun u9 t H1 locs ht hvm hw hB hz1 hk1 hS => ?_)
    subst hw
    obtain ⟨hP1, hK1, hD1⟩ := hB
    rw [ht] at hP1
    obtain ⟨hP, hD⟩ := jA_F hP hD hk1 hFc hP1 hD1
    clear hPc hDc hKc hFc hz1 hk1 hP1 hK1 hD1 ht hvm
    generalize H1 = H at hP hS ⊢
    refine lv_iload_n hx hb dX0_oneLess_37 rfl (lv_at hl 2 rfl) ?_
    exact W.iret (v := ((a1 - (1 : Int32)) &&& (255 : Int32))) hx hb hr (fun t ht hW => ⟨⟨((a1 - (1 : Int32)) &&& (255 : Int32)), (f_X3_setLogic (f_X3_setHalf u (if (((a1 - (1 : Int32)) &&& (255 : Int32)) &&& (15 : Int32)) = (15 : Int32) then false else true : Bool)) ((a1 - (1 : Int32)) &&& (255 : Int32))), rfl, ⟨rfl, rfl⟩, by rw [ht]; exact hP, va_K.moved hW.alike hK, hD⟩, hS.F ht⟩) hS.2.2 dX0_oneLess_38
  · skip
    refine lv_icmp_eq (tgt := 25) hx hb dX0_oneLess_18 (by decide) (fun c2 => ?_) (fun c2 => ?_)
    · skip
      refine lv_iconst (v := 0) hx hb dX0_oneLess_25 (by decide) ?_
      exact hJ1 false _ _ _ (by simp only [if_pos c2]) hP hS (lv_sub hl [1, 2, 0] rfl)
    · skip
      refine lv_iconst (v := 1) hx hb dX0_oneLess_21 (by decide) ?_
      refine lv_goto (tgt := 26) hx hb dX0_oneLess_22 (by decide) ?_
      exact hJ1 true _ _ _ (by simp only [if_neg c2]) hP hS (lv_sub hl [1, 2, 0] rfl)

def f_X0_combine (u : FS) (a1 : Int32) (a2 : Int32) (a3 : Int32) : Int32 × FS := 
  if a1 = 0 then ((f_X0_added u a2 a3 0).1, (f_X0_added u a2 a3 0).2)
  else 
    if a1 = 1 then ((f_X0_added u a2 a3 (f_X3_carryBit u)).1, (f_X0_added u a2 a3 (f_X3_carryBit u)).2)
    else 
      if a1 = 2 then ((f_X0_subtracted u a2 a3 0).1, (f_X0_subtracted u a2 a3 0).2)
      else 
        if a1 = 3 then ((f_X0_subtracted u a2 a3 (f_X3_carryBit u)).1, (f_X0_subtracted u a2 a3 (f_X3_carryBit u)).2)
        else 
          if a1 = 4 then ((f_X0_bitwise u (a2 &&& a3) (if ((a2 ||| a3) &&& (8 : Int32)) = (0 : Int32) then false else true : Bool)).1, (f_X0_bitwise u (a2 &&& a3) (if ((a2 ||| a3) &&& (8 : Int32)) = (0 : Int32) then false else true : Bool)).2)
          else 
            if a1 = 5 then ((f_X0_bitwise u (a2 ^^^ a3) false).1, (f_X0_bitwise u (a2 ^^^ a3) false).2)
            else 
              if a1 = 6 then ((f_X0_bitwise u (a2 ||| a3) false).1, (f_X0_bitwise u (a2 ||| a3) false).2)
              else (a2, (f_X0_subtracted u a2 a3 0).2)
theorem qX0_combine_0 : Cond.fieldLink RX0 9 "DiskMachine$Arithmetic" "flags" "LDiskMachine$Flags;" ∈ wsX0_combine := by decide +kernel
theorem iX0_combine_X0 : ∀ w ∈ wsX00, w ∈ wsX0_combine := by decide +kernel
set_option maxHeartbeats 4000000 in
set_option maxRecDepth 100000 in
theorem k_X0_combine (l : Launch) (dC : Nat → ClassId) (dI : Nat → Nat → Nat) (cI : ClassId) (aO fO : Nat) (sz : Nat) (u : FS) (a1 : Int32) (a2 : Int32) (a3 : Int32) : Met l yX0_combine wsX0_combine ({ frames := 3, cells := 0, slots := 0, locals := 65 }) (va_Pc [.ref aO, .int a1, .int a2, .int a3] (wB dC dI [(cI, .int)] sz (wA cI aO fO u))) (va_Qi (fun (r : Int32) (u' : FS) => r = (f_X0_combine u a1 a2 a3).1 ∧ u' = (f_X0_combine u a1 a2 a3).2) (fun u' => wE dC dI [(cI, .int)] (va_A (wA cI aO fO u) sz) (wA cI aO fO u')) (va_A (wA cI aO fO u) sz)) 0 0 (va_A (wA cI aO fO u) sz) := by
  refine Met.ofW (cc := cX0_combine) (maxL := 4) (ret := (some .int)) (by decide) rfl ?_
  intro p e s m args below meth c s₁ B hml hv
  obtain ⟨rfl, hsz, hP, hK, hD0⟩ := hv
  have hx := B.exec
  have hb := B.bytes
  have hr := B.returns
  have hts := atoms_spec (ws := wsX0_combine) B.pre
  have hown : s.vm.findClass RX0 = some m.cls := findClass_of_methodNamed B.named
  have hlocks := B.notSynchronized
  subst hsz
  have hD := hD0.self (sz := s.heap.size)
  generalize hAe : va_A (wA cI aO fO u) s.heap.size = A at hD ⊢
  have hA : ∀ q : Nat, s.heap.size ≤ q → A q := fun q h => by rw [← hAe]; exact Or.inr h
  have hS : va_S A s.heap s.heap [] := va_S.rf
  have hP : va_P (dC, dI) vwCl (wA cI aO fO u) s.heap := hP
  clear hAe hD0
  have hl := lv_entry ([.ref aO, .int a1, .int a2, .int a3]) (n := 4) (Nat.le_of_ble_eq_true rfl)
  rw [lg_entry_eq]
  generalize (lg_sl ([.ref aO, .int a1, .int a2, .int a3]) ++ List.replicate (4 - (lg_sl ([.ref aO, .int a1, .int a2, .int a3])).length) Slot.unset).toArray = ls at hl ⊢
  have hl : lv_has ls 4 [(0, .ref aO), (1, .int a1), (2, .int a2), (3, .int a3)] := hl
  refine jn_H hP hS (fun H locs hP hS => ?_)
  refine lv_iload_n hx hb dX0_combine_0 rfl (lv_at hl 1 rfl) ?_
  by_cases c1 : a1 = 0
  · refine tb_in (k := 0) (off := 43) (tgt := 44) hx hb dX0_combine_1 c1 (by decide) (by decide) (by decide) (by decide) ?_
    refine lv_aload_n hx hb dX0_combine_44 rfl (lv_at hl 0 rfl) ?_
    refine lv_iload_n hx hb dX0_combine_45 rfl (lv_at hl 2 rfl) ?_
    refine lv_iload_n hx hb dX0_combine_46 rfl (lv_at hl 3 rfl) ?_
    refine lv_iconst (v := 0) hx hb dX0_combine_47 (by decide) ?_
    obtain ⟨hPc, hDc, hFc⟩ := xA_A hP hD hS hA
    have hKc := hK.sub (tys' := [(cI, .int)]) [0] rfl
    refine va_calli (va_runV (As := [.int a2, .int a3, .int 0]) (rest := []) ⟨hx, hb, hml, hown, hts⟩ (k_X0_added l dC dI cI aO fO H.size u a2 a3 0) (cwV 3 hts gX0_combine_X0_added rfl rfl rfl (by decide +kernel) ⟨Nat.le_of_ble_eq_true rfl, Nat.le_of_ble_eq_true rfl⟩) ⟨fun a U g mk q => by obtain ⟨q0, q1, qP, qK, qD⟩ := q; exact ⟨q0, q1, qP, va_K.moved (u := U) (U := U.calling g mk a) (Vm.Alike.refl U.vm) qK, qD⟩, va_recv hKc hPc (ci := 0) (q0 := 0) rfl rfl, fun U hU hW => ⟨rfl, by rw [hU], by rw [hU]; exact hPc, va_K.moved hW.alike hKc, hDc.weaken (fun _ _ _ _ => trivial)⟩⟩ rfl rfl hl.1 rfl (lv_room (Nat.le_of_ble_eq_true rfl)) dX0_combine_48 ⟨Nat.le_of_ble_eq_true rfl, Nat.le_of_ble_eq_true rfl⟩) hS (fun q _ h => hFc q h) hFc (fun r9 u9 t H1 locs ht hvm hw hB hz1 hk1 hS => ?_)
    obtain ⟨rfl, rfl⟩ := hw
    obtain ⟨hP1, hK1, hD1⟩ := hB
    rw [ht] at hP1
    obtain ⟨hP, hD⟩ := jA_A hP hD hk1 hFc hP1 hD1
    clear hPc hDc hKc hFc hz1 hk1 hP1 hK1 hD1 ht hvm
    generalize H1 = H at hP hS ⊢
    exact W.iret (v := (f_X0_added u a2 a3 0).1) hx hb hr (fun t ht hW => ⟨⟨(f_X0_added u a2 a3 0).1, (f_X0_added u a2 a3 0).2, rfl, ⟨(by simp only [f_X0_combine, if_pos c1]), (by simp only [f_X0_combine, if_pos c1])⟩, by rw [ht]; exact hP, va_K.moved hW.alike hK, hD⟩, hS.F ht⟩) hS.2.2 dX0_combine_51
  · skip
    by_cases c2 : a1 = 1
    · refine tb_in (k := 1) (off := 51) (tgt := 52) hx hb dX0_combine_1 c2 (by decide) (by decide) (by decide) (by decide) ?_
      refine lv_aload_n hx hb dX0_combine_52 rfl (lv_at hl 0 rfl) ?_
      refine lv_iload_n hx hb dX0_combine_53 rfl (lv_at hl 2 rfl) ?_
      refine lv_iload_n hx hb dX0_combine_54 rfl (lv_at hl 3 rfl) ?_
      refine lv_aload_n hx hb dX0_combine_55 rfl (lv_at hl 0 rfl) ?_
      refine va_get (D := (dC, dI)) (ci := 0) (v := .ref fO) (C := RX0) (T := TX0) (N := 1) hx hb hts iX0_combine_X0 hown hK hP 0 rfl rfl 0 (by decide) (hts _ qX0_combine_0) (fun _ h9 => h9) rfl dX0_combine_56 ?_
      obtain ⟨hPc, hDc, hFc⟩ := xA_F hP hD hS hA
      have hKc := hK.sub (tys' := [(cI, .int)]) [0] rfl
      refine va_calli (va_runV (As := []) (rest := [.int a3, .int a2, .ref aO]) ⟨hx, hb, hml, hown, hts⟩ (k_X3_carryBit l dC dI cI fO H.size u) (cwV 0 hts gX0_combine_X3_carryBit rfl rfl rfl (by decide +kernel) ⟨Nat.le_of_ble_eq_true rfl, Nat.le_of_ble_eq_true rfl⟩) ⟨fun a U g mk q => by obtain ⟨q0, q1, qP, qK, qD⟩ := q; exact ⟨q0, q1, qP, va_K.moved (u := U) (U := U.calling g mk a) (Vm.Alike.refl U.vm) qK, qD⟩, va_recv hKc hPc (ci := 3) (q0 := 0) rfl rfl, fun U hU hW => ⟨rfl, by rw [hU], by rw [hU]; exact hPc, va_K.moved hW.alike hKc, hDc.weaken (fun _ _ _ _ => trivial)⟩⟩ rfl rfl hl.1 rfl (lv_room (Nat.le_of_ble_eq_true rfl)) dX0_combine_59 ⟨Nat.le_of_ble_eq_true rfl, Nat.le_of_ble_eq_true rfl⟩) hS (fun q _ h => hFc q h) hFc (fun r9 u9 t H1 locs ht hvm hw hB hz1 hk1 hS => ?_)
      obtain ⟨hw1, hw2⟩ := hw
      have hw2 := hw2.symm
      subst hw1 hw2
      obtain ⟨hP1, hK1, hD1⟩ := hB
      rw [ht] at hP1
      obtain ⟨hP, hD⟩ := jA_F0 hP hD hk1 hFc hP1 hD1
      clear hPc hDc hKc hFc hz1 hk1 hP1 hK1 hD1 ht hvm
      generalize H1 = H at hP hS ⊢
      obtain ⟨hPc, hDc, hFc⟩ := xA_A hP hD hS hA
      have hKc := hK.sub (tys' := [(cI, .int)]) [0] rfl
      refine va_calli (va_runV (As := [.int a2, .int a3, .int (f_X3_carryBit u)]) (rest := []) ⟨hx, hb, hml, hown, hts⟩ (k_X0_added l dC dI cI aO fO H.size u a2 a3 (f_X3_carryBit u)) (cwV 3 hts gX0_combine_X0_added rfl rfl rfl (by decide +kernel) ⟨Nat.le_of_ble_eq_true rfl, Nat.le_of_ble_eq_true rfl⟩) ⟨fun a U g mk q => by obtain ⟨q0, q1, qP, qK, qD⟩ := q; exact ⟨q0, q1, qP, va_K.moved (u := U) (U := U.calling g mk a) (Vm.Alike.refl U.vm) qK, qD⟩, va_recv hKc hPc (ci := 0) (q0 := 0) rfl rfl, fun U hU hW => ⟨rfl, by rw [hU], by rw [hU]; exact hPc, va_K.moved hW.alike hKc, hDc.weaken (fun _ _ _ _ => trivial)⟩⟩ rfl rfl hl.1 rfl (lv_room (Nat.le_of_ble_eq_true rfl)) dX0_combine_62 ⟨Nat.le_of_ble_eq_true rfl, Nat.le_of_ble_eq_true rfl⟩) hS (fun q _ h => hFc q h) hFc (fun r9 u9 t H1 locs ht hvm hw hB hz1 hk1 hS => ?_)
      obtain ⟨rfl, rfl⟩ := hw
      obtain ⟨hP1, hK1, hD1⟩ := hB
      rw [ht] at hP1
      obtain ⟨hP, hD⟩ := jA_A hP hD hk1 hFc hP1 hD1
      clear hPc hDc hKc hFc hz1 hk1 hP1 hK1 hD1 ht hvm
      generalize H1 = H at hP hS ⊢
      exact W.iret (v := (f_X0_added u a2 a3 (f_X3_carryBit u)).1) hx hb hr (fun t ht hW => ⟨⟨(f_X0_added u a2 a3 (f_X3_carryBit u)).1, (f_X0_added u a2 a3 (f_X3_carryBit u)).2, rfl, ⟨(by simp only [f_X0_combine, if_neg c1, if_pos c2]), (by simp only [f_X0_combine, if_neg c1, if_pos c2])⟩, by rw [ht]; exact hP, va_K.moved hW.alike hK, hD⟩, hS.F ht⟩) hS.2.2 dX0_combine_65
    · skip
      by_cases c3 : a1 = 2
      · refine tb_in (k := 2) (off := 65) (tgt := 66) hx hb dX0_combine_1 c3 (by decide) (by decide) (by decide) (by decide) ?_
        refine lv_aload_n hx hb dX0_combine_66 rfl (lv_at hl 0 rfl) ?_
        refine lv_iload_n hx hb dX0_combine_67 rfl (lv_at hl 2 rfl) ?_
        refine lv_iload_n hx hb dX0_combine_68 rfl (lv_at hl 3 rfl) ?_
        refine lv_iconst (v := 0) hx hb dX0_combine_69 (by decide) ?_
        obtain ⟨hPc, hDc, hFc⟩ := xA_A hP hD hS hA
        have hKc := hK.sub (tys' := [(cI, .int)]) [0] rfl
        refine va_calli (va_runV (As := [.int a2, .int a3, .int 0]) (rest := []) ⟨hx, hb, hml, hown, hts⟩ (k_X0_subtracted l dC dI cI aO fO H.size u a2 a3 0) (cwV 3 hts gX0_combine_X0_subtracted rfl rfl rfl (by decide +kernel) ⟨Nat.le_of_ble_eq_true rfl, Nat.le_of_ble_eq_true rfl⟩) ⟨fun a U g mk q => by obtain ⟨q0, q1, qP, qK, qD⟩ := q; exact ⟨q0, q1, qP, va_K.moved (u := U) (U := U.calling g mk a) (Vm.Alike.refl U.vm) qK, qD⟩, va_recv hKc hPc (ci := 0) (q0 := 0) rfl rfl, fun U hU hW => ⟨rfl, by rw [hU], by rw [hU]; exact hPc, va_K.moved hW.alike hKc, hDc.weaken (fun _ _ _ _ => trivial)⟩⟩ rfl rfl hl.1 rfl (lv_room (Nat.le_of_ble_eq_true rfl)) dX0_combine_70 ⟨Nat.le_of_ble_eq_true rfl, Nat.le_of_ble_eq_true rfl⟩) hS (fun q _ h => hFc q h) hFc (fun r9 u9 t H1 locs ht hvm hw hB hz1 hk1 hS => ?_)
        obtain ⟨rfl, rfl⟩ := hw
        obtain ⟨hP1, hK1, hD1⟩ := hB
        rw [ht] at hP1
        obtain ⟨hP, hD⟩ := jA_A hP hD hk1 hFc hP1 hD1
        clear hPc hDc hKc hFc hz1 hk1 hP1 hK1 hD1 ht hvm
        generalize H1 = H at hP hS ⊢
        exact W.iret (v := (f_X0_subtracted u a2 a3 0).1) hx hb hr (fun t ht hW => ⟨⟨(f_X0_subtracted u a2 a3 0).1, (f_X0_subtracted u a2 a3 0).2, rfl, ⟨(by simp only [f_X0_combine, if_neg c1, if_neg c2, if_pos c3]), (by simp only [f_X0_combine, if_neg c1, if_neg c2, if_pos c3])⟩, by rw [ht]; exact hP, va_K.moved hW.alike hK, hD⟩, hS.F ht⟩) hS.2.2 dX0_combine_73
      · skip
        by_cases c4 : a1 = 3
        · refine tb_in (k := 3) (off := 73) (tgt := 74) hx hb dX0_combine_1 c4 (by decide) (by decide) (by decide) (by decide) ?_
          refine lv_aload_n hx hb dX0_combine_74 rfl (lv_at hl 0 rfl) ?_
          refine lv_iload_n hx hb dX0_combine_75 rfl (lv_at hl 2 rfl) ?_
          refine lv_iload_n hx hb dX0_combine_76 rfl (lv_at hl 3 rfl) ?_
          refine lv_aload_n hx hb dX0_combine_77 rfl (lv_at hl 0 rfl) ?_
          refine va_get (D := (dC, dI)) (ci := 0) (v := .ref fO) (C := RX0) (T := TX0) (N := 1) hx hb hts iX0_combine_X0 hown hK hP 0 rfl rfl 0 (by decide) (hts _ qX0_combine_0) (fun _ h9 => h9) rfl dX0_combine_78 ?_
          obtain ⟨hPc, hDc, hFc⟩ := xA_F hP hD hS hA
          have hKc := hK.sub (tys' := [(cI, .int)]) [0] rfl
          refine va_calli (va_runV (As := []) (rest := [.int a3, .int a2, .ref aO]) ⟨hx, hb, hml, hown, hts⟩ (k_X3_carryBit l dC dI cI fO H.size u) (cwV 0 hts gX0_combine_X3_carryBit rfl rfl rfl (by decide +kernel) ⟨Nat.le_of_ble_eq_true rfl, Nat.le_of_ble_eq_true rfl⟩) ⟨fun a U g mk q => by obtain ⟨q0, q1, qP, qK, qD⟩ := q; exact ⟨q0, q1, qP, va_K.moved (u := U) (U := U.calling g mk a) (Vm.Alike.refl U.vm) qK, qD⟩, va_recv hKc hPc (ci := 3) (q0 := 0) rfl rfl, fun U hU hW => ⟨rfl, by rw [hU], by rw [hU]; exact hPc, va_K.moved hW.alike hKc, hDc.weaken (fun _ _ _ _ => trivial)⟩⟩ rfl rfl hl.1 rfl (lv_room (Nat.le_of_ble_eq_true rfl)) dX0_combine_81 ⟨Nat.le_of_ble_eq_true rfl, Nat.le_of_ble_eq_true rfl⟩) hS (fun q _ h => hFc q h) hFc (fun r9 u9 t H1 locs ht hvm hw hB hz1 hk1 hS => ?_)
          obtain ⟨hw1, hw2⟩ := hw
          have hw2 := hw2.symm
          subst hw1 hw2
          obtain ⟨hP1, hK1, hD1⟩ := hB
          rw [ht] at hP1
          obtain ⟨hP, hD⟩ := jA_F0 hP hD hk1 hFc hP1 hD1
          clear hPc hDc hKc hFc hz1 hk1 hP1 hK1 hD1 ht hvm
          generalize H1 = H at hP hS ⊢
          obtain ⟨hPc, hDc, hFc⟩ := xA_A hP hD hS hA
          have hKc := hK.sub (tys' := [(cI, .int)]) [0] rfl
          refine va_calli (va_runV (As := [.int a2, .int a3, .int (f_X3_carryBit u)]) (rest := []) ⟨hx, hb, hml, hown, hts⟩ (k_X0_subtracted l dC dI cI aO fO H.size u a2 a3 (f_X3_carryBit u)) (cwV 3 hts gX0_combine_X0_subtracted rfl rfl rfl (by decide +kernel) ⟨Nat.le_of_ble_eq_true rfl, Nat.le_of_ble_eq_true rfl⟩) ⟨fun a U g mk q => by obtain ⟨q0, q1, qP, qK, qD⟩ := q; exact ⟨q0, q1, qP, va_K.moved (u := U) (U := U.calling g mk a) (Vm.Alike.refl U.vm) qK, qD⟩, va_recv hKc hPc (ci := 0) (q0 := 0) rfl rfl, fun U hU hW => ⟨rfl, by rw [hU], by rw [hU]; exact hPc, va_K.moved hW.alike hKc, hDc.weaken (fun _ _ _ _ => trivial)⟩⟩ rfl rfl hl.1 rfl (lv_room (Nat.le_of_ble_eq_true rfl)) dX0_combine_84 ⟨Nat.le_of_ble_eq_true rfl, Nat.le_of_ble_eq_true rfl⟩) hS (fun q _ h => hFc q h) hFc (fun r9 u9 t H1 locs ht hvm hw hB hz1 hk1 hS => ?_)
          obtain ⟨rfl, rfl⟩ := hw
          obtain ⟨hP1, hK1, hD1⟩ := hB
          rw [ht] at hP1
          obtain ⟨hP, hD⟩ := jA_A hP hD hk1 hFc hP1 hD1
          clear hPc hDc hKc hFc hz1 hk1 hP1 hK1 hD1 ht hvm
          generalize H1 = H at hP hS ⊢
          exact W.iret (v := (f_X0_subtracted u a2 a3 (f_X3_carryBit u)).1) hx hb hr (fun t ht hW => ⟨⟨(f_X0_subtracted u a2 a3 (f_X3_carryBit u)).1, (f_X0_subtracted u a2 a3 (f_X3_carryBit u)).2, rfl, ⟨(by simp only [f_X0_combine, if_neg c1, if_neg c2, if_neg c3, if_pos c4]), (by simp only [f_X0_combine, if_neg c1, if_neg c2, if_neg c3, if_pos c4])⟩, by rw [ht]; exact hP, va_K.moved hW.alike hK, hD⟩, hS.F ht⟩) hS.2.2 dX0_combine_87
        · skip
          by_cases c5 : a1 = 4
          · refine tb_in (k := 4) (off := 87) (tgt := 88) hx hb dX0_combine_1 c5 (by decide) (by decide) (by decide) (by decide) ?_
            refine lv_aload_n hx hb dX0_combine_88 rfl (lv_at hl 0 rfl) ?_
            refine lv_iload_n hx hb dX0_combine_89 rfl (lv_at hl 2 rfl) ?_
            refine lv_iload_n hx hb dX0_combine_90 rfl (lv_at hl 3 rfl) ?_
            refine lv_iand hx hb dX0_combine_91 ?_
            refine lv_iload_n hx hb dX0_combine_92 rfl (lv_at hl 2 rfl) ?_
            refine lv_iload_n hx hb dX0_combine_93 rfl (lv_at hl 3 rfl) ?_
            refine lv_ior hx hb dX0_combine_94 ?_
            refine lv_bipush (v := 8) hx hb dX0_combine_95 (by decide) ?_
            refine lv_iand hx hb dX0_combine_97 ?_
            refine jn_b (D := (dC, dI)) (cl := vwCl) (ws := (wA cI aO fO u)) (A := A) (H0 := s.heap) (nL := 4) 106 (if ((a2 ||| a3) &&& (8 : Int32)) = (0 : Int32) then false else true : Bool) [(0, .ref aO), (1, .int a1), (2, .int a2), (3, .int a3)] [.int (a2 &&& a3), .ref aO] (fun H locs ls hP hS hl => ?_) (fun hJ6 => ?_)
            · skip
              obtain ⟨hPc, hDc, hFc⟩ := xA_A hP hD hS hA
              have hKc := hK.sub (tys' := [(cI, .int)]) [0] rfl
              refine va_calli (va_runV (As := [.int (a2 &&& a3), .int (bI (if ((a2 ||| a3) &&& (8 : Int32)) = (0 : Int32) then false else true : Bool))]) (rest := []) ⟨hx, hb, hml, hown, hts⟩ (k_X0_bitwise l dC dI cI aO fO H.size u (a2 &&& a3) (if ((a2 ||| a3) &&& (8 : Int32)) = (0 : Int32) then false else true : Bool)) (cwV 2 hts gX0_combine_X0_bitwise rfl rfl rfl (by decide +kernel) ⟨Nat.le_of_ble_eq_true rfl, Nat.le_of_ble_eq_true rfl⟩) ⟨fun a U g mk q => by obtain ⟨q0, q1, qP, qK, qD⟩ := q; exact ⟨q0, q1, qP, va_K.moved (u := U) (U := U.calling g mk a) (Vm.Alike.refl U.vm) qK, qD⟩, va_recv hKc hPc (ci := 0) (q0 := 0) rfl rfl, fun U hU hW => ⟨rfl, by rw [hU], by rw [hU]; exact hPc, va_K.moved hW.alike hKc, hDc.weaken (fun _ _ _ _ => trivial)⟩⟩ rfl rfl hl.1 rfl (lv_room (Nat.le_of_ble_eq_true rfl)) dX0_combine_106 ⟨Nat.le_of_ble_eq_true rfl, Nat.le_of_ble_eq_true rfl⟩) hS (fun q _ h => hFc q h) hFc (fun r9 u9 t H1 locs ht hvm hw hB hz1 hk1 hS => ?_)
              obtain ⟨rfl, rfl⟩ := hw
              obtain ⟨hP1, hK1, hD1⟩ := hB
              rw [ht] at hP1
              obtain ⟨hP, hD⟩ := jA_A hP hD hk1 hFc hP1 hD1
              clear hPc hDc hKc hFc hz1 hk1 hP1 hK1 hD1 ht hvm
              generalize H1 = H at hP hS ⊢
              exact W.iret (v := (f_X0_bitwise u (a2 &&& a3) (if ((a2 ||| a3) &&& (8 : Int32)) = (0 : Int32) then false else true : Bool)).1) hx hb hr (fun t ht hW => ⟨⟨(f_X0_bitwise u (a2 &&& a3) (if ((a2 ||| a3) &&& (8 : Int32)) = (0 : Int32) then false else true : Bool)).1, (f_X0_bitwise u (a2 &&& a3) (if ((a2 ||| a3) &&& (8 : Int32)) = (0 : Int32) then false else true : Bool)).2, rfl, ⟨(by simp only [f_X0_combine, if_neg c1, if_neg c2, if_neg c3, if_neg c4, if_pos c5]), (by simp only [f_X0_combine, if_neg c1, if_neg c2, if_neg c3, if_neg c4, if_pos c5])⟩, by rw [ht]; exact hP, va_K.moved hW.alike hK, hD⟩, hS.F ht⟩) hS.2.2 dX0_combine_109
            · skip
              refine lv_if_eq (tgt := 105) hx hb dX0_combine_98 (by decide) (fun c7 => ?_) (fun c7 => ?_)
              · skip
                refine lv_iconst (v := 0) hx hb dX0_combine_105 (by decide) ?_
                exact hJ6 false _ _ _ (by simp only [if_pos c7]) hP hS (lv_sub hl [0, 1, 2, 3] rfl)
              · skip
                refine lv_iconst (v := 1) hx hb dX0_combine_101 (by decide) ?_
                refine lv_goto (tgt := 106) hx hb dX0_combine_102 (by decide) ?_
                exact hJ6 true _ _ _ (by simp only [if_neg c7]) hP hS (lv_sub hl [0, 1, 2, 3] rfl)
          · skip
            by_cases c8 : a1 = 5
            · refine tb_in (k := 5) (off := 109) (tgt := 110) hx hb dX0_combine_1 c8 (by decide) (by decide) (by decide) (by decide) ?_
              refine lv_aload_n hx hb dX0_combine_110 rfl (lv_at hl 0 rfl) ?_
              refine lv_iload_n hx hb dX0_combine_111 rfl (lv_at hl 2 rfl) ?_
              refine lv_iload_n hx hb dX0_combine_112 rfl (lv_at hl 3 rfl) ?_
              refine lv_ixor hx hb dX0_combine_113 ?_
              refine lv_iconst (v := 0) hx hb dX0_combine_114 (by decide) ?_
              obtain ⟨hPc, hDc, hFc⟩ := xA_A hP hD hS hA
              have hKc := hK.sub (tys' := [(cI, .int)]) [0] rfl
              refine va_calli (va_runV (As := [.int (a2 ^^^ a3), .int (bI false)]) (rest := []) ⟨hx, hb, hml, hown, hts⟩ (k_X0_bitwise l dC dI cI aO fO H.size u (a2 ^^^ a3) false) (cwV 2 hts gX0_combine_X0_bitwise rfl rfl rfl (by decide +kernel) ⟨Nat.le_of_ble_eq_true rfl, Nat.le_of_ble_eq_true rfl⟩) ⟨fun a U g mk q => by obtain ⟨q0, q1, qP, qK, qD⟩ := q; exact ⟨q0, q1, qP, va_K.moved (u := U) (U := U.calling g mk a) (Vm.Alike.refl U.vm) qK, qD⟩, va_recv hKc hPc (ci := 0) (q0 := 0) rfl rfl, fun U hU hW => ⟨rfl, by rw [hU], by rw [hU]; exact hPc, va_K.moved hW.alike hKc, hDc.weaken (fun _ _ _ _ => trivial)⟩⟩ rfl rfl hl.1 rfl (lv_room (Nat.le_of_ble_eq_true rfl)) dX0_combine_115 ⟨Nat.le_of_ble_eq_true rfl, Nat.le_of_ble_eq_true rfl⟩) hS (fun q _ h => hFc q h) hFc (fun r9 u9 t H1 locs ht hvm hw hB hz1 hk1 hS => ?_)
              obtain ⟨rfl, rfl⟩ := hw
              obtain ⟨hP1, hK1, hD1⟩ := hB
              rw [ht] at hP1
              obtain ⟨hP, hD⟩ := jA_A hP hD hk1 hFc hP1 hD1
              clear hPc hDc hKc hFc hz1 hk1 hP1 hK1 hD1 ht hvm
              generalize H1 = H at hP hS ⊢
              exact W.iret (v := (f_X0_bitwise u (a2 ^^^ a3) false).1) hx hb hr (fun t ht hW => ⟨⟨(f_X0_bitwise u (a2 ^^^ a3) false).1, (f_X0_bitwise u (a2 ^^^ a3) false).2, rfl, ⟨(by simp only [f_X0_combine, if_neg c1, if_neg c2, if_neg c3, if_neg c4, if_neg c5, if_pos c8]), (by simp only [f_X0_combine, if_neg c1, if_neg c2, if_neg c3, if_neg c4, if_neg c5, if_pos c8])⟩, by rw [ht]; exact hP, va_K.moved hW.alike hK, hD⟩, hS.F ht⟩) hS.2.2 dX0_combine_118
            · skip
              by_cases c9 : a1 = 6
              · refine tb_in (k := 6) (off := 118) (tgt := 119) hx hb dX0_combine_1 c9 (by decide) (by decide) (by decide) (by decide) ?_
                refine lv_aload_n hx hb dX0_combine_119 rfl (lv_at hl 0 rfl) ?_
                refine lv_iload_n hx hb dX0_combine_120 rfl (lv_at hl 2 rfl) ?_
                refine lv_iload_n hx hb dX0_combine_121 rfl (lv_at hl 3 rfl) ?_
                refine lv_ior hx hb dX0_combine_122 ?_
                refine lv_iconst (v := 0) hx hb dX0_combine_123 (by decide) ?_
                obtain ⟨hPc, hDc, hFc⟩ := xA_A hP hD hS hA
                have hKc := hK.sub (tys' := [(cI, .int)]) [0] rfl
                refine va_calli (va_runV (As := [.int (a2 ||| a3), .int (bI false)]) (rest := []) ⟨hx, hb, hml, hown, hts⟩ (k_X0_bitwise l dC dI cI aO fO H.size u (a2 ||| a3) false) (cwV 2 hts gX0_combine_X0_bitwise rfl rfl rfl (by decide +kernel) ⟨Nat.le_of_ble_eq_true rfl, Nat.le_of_ble_eq_true rfl⟩) ⟨fun a U g mk q => by obtain ⟨q0, q1, qP, qK, qD⟩ := q; exact ⟨q0, q1, qP, va_K.moved (u := U) (U := U.calling g mk a) (Vm.Alike.refl U.vm) qK, qD⟩, va_recv hKc hPc (ci := 0) (q0 := 0) rfl rfl, fun U hU hW => ⟨rfl, by rw [hU], by rw [hU]; exact hPc, va_K.moved hW.alike hKc, hDc.weaken (fun _ _ _ _ => trivial)⟩⟩ rfl rfl hl.1 rfl (lv_room (Nat.le_of_ble_eq_true rfl)) dX0_combine_124 ⟨Nat.le_of_ble_eq_true rfl, Nat.le_of_ble_eq_true rfl⟩) hS (fun q _ h => hFc q h) hFc (fun r9 u9 t H1 locs ht hvm hw hB hz1 hk1 hS => ?_)
                obtain ⟨rfl, rfl⟩ := hw
                obtain ⟨hP1, hK1, hD1⟩ := hB
                rw [ht] at hP1
                obtain ⟨hP, hD⟩ := jA_A hP hD hk1 hFc hP1 hD1
                clear hPc hDc hKc hFc hz1 hk1 hP1 hK1 hD1 ht hvm
                generalize H1 = H at hP hS ⊢
                exact W.iret (v := (f_X0_bitwise u (a2 ||| a3) false).1) hx hb hr (fun t ht hW => ⟨⟨(f_X0_bitwise u (a2 ||| a3) false).1, (f_X0_bitwise u (a2 ||| a3) false).2, rfl, ⟨(by simp only [f_X0_combine, if_neg c1, if_neg c2, if_neg c3, if_neg c4, if_neg c5, if_neg c8, if_pos c9]), (by simp only [f_X0_combine, if_neg c1, if_neg c2, if_neg c3, if_neg c4, if_neg c5, if_neg c8, if_pos c9])⟩, by rw [ht]; exact hP, va_K.moved hW.alike hK, hD⟩, hS.F ht⟩) hS.2.2 dX0_combine_127
              · skip
                refine lv_tableOut (tgt := 128) hx hb dX0_combine_1 (by have r0 := lv_neT c1 (a := 0) (by decide); have r1 := lv_neT c2 (a := 1) (by decide); have r2 := lv_neT c3 (a := 2) (by decide); have r3 := lv_neT c4 (a := 3) (by decide); have r4 := lv_neT c5 (a := 4) (by decide); have r5 := lv_neT c8 (a := 5) (by decide); have r6 := lv_neT c9 (a := 6) (by decide); omega) (by decide) ?_
                refine lv_aload_n hx hb dX0_combine_128 rfl (lv_at hl 0 rfl) ?_
                refine lv_iload_n hx hb dX0_combine_129 rfl (lv_at hl 2 rfl) ?_
                refine lv_iload_n hx hb dX0_combine_130 rfl (lv_at hl 3 rfl) ?_
                refine lv_iconst (v := 0) hx hb dX0_combine_131 (by decide) ?_
                obtain ⟨hPc, hDc, hFc⟩ := xA_A hP hD hS hA
                have hKc := hK.sub (tys' := [(cI, .int)]) [0] rfl
                refine va_calli (va_runV (As := [.int a2, .int a3, .int 0]) (rest := []) ⟨hx, hb, hml, hown, hts⟩ (k_X0_subtracted l dC dI cI aO fO H.size u a2 a3 0) (cwV 3 hts gX0_combine_X0_subtracted rfl rfl rfl (by decide +kernel) ⟨Nat.le_of_ble_eq_true rfl, Nat.le_of_ble_eq_true rfl⟩) ⟨fun a U g mk q => by obtain ⟨q0, q1, qP, qK, qD⟩ := q; exact ⟨q0, q1, qP, va_K.moved (u := U) (U := U.calling g mk a) (Vm.Alike.refl U.vm) qK, qD⟩, va_recv hKc hPc (ci := 0) (q0 := 0) rfl rfl, fun U hU hW => ⟨rfl, by rw [hU], by rw [hU]; exact hPc, va_K.moved hW.alike hKc, hDc.weaken (fun _ _ _ _ => trivial)⟩⟩ rfl rfl hl.1 rfl (lv_room (Nat.le_of_ble_eq_true rfl)) dX0_combine_132 ⟨Nat.le_of_ble_eq_true rfl, Nat.le_of_ble_eq_true rfl⟩) hS (fun q _ h => hFc q h) hFc (fun r9 u9 t H1 locs ht hvm hw hB hz1 hk1 hS => ?_)
                obtain ⟨rfl, rfl⟩ := hw
                obtain ⟨hP1, hK1, hD1⟩ := hB
                rw [ht] at hP1
                obtain ⟨hP, hD⟩ := jA_A hP hD hk1 hFc hP1 hD1
                clear hPc hDc hKc hFc hz1 hk1 hP1 hK1 hD1 ht hvm
                generalize H1 = H at hP hS ⊢
                refine lv_pop hx hb dX0_combine_135 rfl ?_
                refine lv_iload_n hx hb dX0_combine_136 rfl (lv_at hl 2 rfl) ?_
                exact W.iret (v := a2) hx hb hr (fun t ht hW => ⟨⟨a2, (f_X0_subtracted u a2 a3 0).2, rfl, ⟨(by simp only [f_X0_combine, if_neg c1, if_neg c2, if_neg c3, if_neg c4, if_neg c5, if_neg c8, if_neg c9]), (by simp only [f_X0_combine, if_neg c1, if_neg c2, if_neg c3, if_neg c4, if_neg c5, if_neg c8, if_neg c9])⟩, by rw [ht]; exact hP, va_K.moved hW.alike hK, hD⟩, hS.F ht⟩) hS.2.2 dX0_combine_137

def f_X0_turnLeft (u : FS) (a1 : Int32) (a2 : Int32) : Int32 × FS := ((((a1 <<< ((1 : Int32) &&& 31)) &&& (255 : Int32)) ||| a2), (f_X3_setCarry u (if (a1 &&& (128 : Int32)) = (0 : Int32) then false else true : Bool)))
theorem qX0_turnLeft_0 : Cond.fieldLink RX0 9 "DiskMachine$Arithmetic" "flags" "LDiskMachine$Flags;" ∈ wsX0_turnLeft := by decide +kernel
theorem iX0_turnLeft_X0 : ∀ w ∈ wsX00, w ∈ wsX0_turnLeft := by decide +kernel
set_option maxHeartbeats 4000000 in
set_option maxRecDepth 100000 in
theorem k_X0_turnLeft (l : Launch) (dC : Nat → ClassId) (dI : Nat → Nat → Nat) (cI : ClassId) (aO fO : Nat) (sz : Nat) (u : FS) (a1 : Int32) (a2 : Int32) : Met l yX0_turnLeft wsX0_turnLeft ({ frames := 1, cells := 0, slots := 0, locals := 21 }) (va_Pc [.ref aO, .int a1, .int a2] (wB dC dI [(cI, .int)] sz (wA cI aO fO u))) (va_Qi (fun (r : Int32) (u' : FS) => r = (f_X0_turnLeft u a1 a2).1 ∧ u' = (f_X0_turnLeft u a1 a2).2) (fun u' => wE dC dI [(cI, .int)] (va_A (wA cI aO fO u) sz) (wA cI aO fO u')) (va_A (wA cI aO fO u) sz)) 0 0 (va_A (wA cI aO fO u) sz) := by
  refine Met.ofW (cc := cX0_turnLeft) (maxL := 3) (ret := (some .int)) (by decide) rfl ?_
  intro p e s m args below meth c s₁ B hml hv
  obtain ⟨rfl, hsz, hP, hK, hD0⟩ := hv
  have hx := B.exec
  have hb := B.bytes
  have hr := B.returns
  have hts := atoms_spec (ws := wsX0_turnLeft) B.pre
  have hown : s.vm.findClass RX0 = some m.cls := findClass_of_methodNamed B.named
  have hlocks := B.notSynchronized
  subst hsz
  have hD := hD0.self (sz := s.heap.size)
  generalize hAe : va_A (wA cI aO fO u) s.heap.size = A at hD ⊢
  have hA : ∀ q : Nat, s.heap.size ≤ q → A q := fun q h => by rw [← hAe]; exact Or.inr h
  have hS : va_S A s.heap s.heap [] := va_S.rf
  have hP : va_P (dC, dI) vwCl (wA cI aO fO u) s.heap := hP
  clear hAe hD0
  have hl := lv_entry ([.ref aO, .int a1, .int a2]) (n := 3) (Nat.le_of_ble_eq_true rfl)
  rw [lg_entry_eq]
  generalize (lg_sl ([.ref aO, .int a1, .int a2]) ++ List.replicate (3 - (lg_sl ([.ref aO, .int a1, .int a2])).length) Slot.unset).toArray = ls at hl ⊢
  have hl : lv_has ls 3 [(0, .ref aO), (1, .int a1), (2, .int a2)] := hl
  refine jn_H hP hS (fun H locs hP hS => ?_)
  refine lv_aload_n hx hb dX0_turnLeft_0 rfl (lv_at hl 0 rfl) ?_
  refine va_get (D := (dC, dI)) (ci := 0) (v := .ref fO) (C := RX0) (T := TX0) (N := 1) hx hb hts iX0_turnLeft_X0 hown hK hP 0 rfl rfl 0 (by decide) (hts _ qX0_turnLeft_0) (fun _ h9 => h9) rfl dX0_turnLeft_1 ?_
  refine lv_iload_n hx hb dX0_turnLeft_4 rfl (lv_at hl 1 rfl) ?_
  refine lv_sipush (v := 128) hx hb dX0_turnLeft_5 (by decide) ?_
  refine lv_iand hx hb dX0_turnLeft_8 ?_
  refine jn_b (D := (dC, dI)) (cl := vwCl) (ws := (wA cI aO fO u)) (A := A) (H0 := s.heap) (nL := 3) 17 (if (a1 &&& (128 : Int32)) = (0 : Int32) then false else true : Bool) [(0, .ref aO), (1, .int a1), (2, .int a2)] [.ref fO] (fun H locs ls hP hS hl => ?_) (fun hJ1 => ?_)
  · skip
    obtain ⟨hPc, hDc, hFc⟩ := xA_F hP hD hS hA
    have hKc := hK.sub (tys' := [(cI, .int)]) [0] rfl
    refine va_callv (va_runV (As := [.int (bI (if (a1 &&& (128 : Int32)) = (0 : Int32) then false else true : Bool))]) (rest := []) ⟨hx, hb, hml, hown, hts⟩ (k_X3_setCarry l dC dI cI fO H.size u (if (a1 &&& (128 : Int32)) = (0 : Int32) then false else true : Bool)) (cwV 1 hts gX0_turnLeft_X3_setCarry rfl rfl rfl (by decide +kernel) ⟨Nat.le_of_ble_eq_true rfl, Nat.le_of_ble_eq_true rfl⟩) ⟨fun a U g mk q => by obtain ⟨q0, q1, qP, qK, qD⟩ := q; exact ⟨q0, q1, qP, va_K.moved (u := U) (U := U.calling g mk a) (Vm.Alike.refl U.vm) qK, qD⟩, va_recv hKc hPc (ci := 3) (q0 := 0) rfl rfl, fun U hU hW => ⟨rfl, by rw [hU], by rw [hU]; exact hPc, va_K.moved hW.alike hKc, hDc.weaken (fun _ _ _ _ => trivial)⟩⟩ rfl rfl hl.1 rfl (lv_room (Nat.le_of_ble_eq_true rfl)) dX0_turnLeft_17 ⟨Nat.le_of_ble_eq_true rfl, Nat.le_of_ble_eq_true rfl⟩) hS (fun q _ h => hFc q h) hFc (fun u9 t H1 locs ht hvm hw hB hz1 hk1 hS => ?_)
    subst hw
    obtain ⟨hP1, hK1, hD1⟩ := hB
    rw [ht] at hP1
    obtain ⟨hP, hD⟩ := jA_F hP hD hk1 hFc hP1 hD1
    clear hPc hDc hKc hFc hz1 hk1 hP1 hK1 hD1 ht hvm
    generalize H1 = H at hP hS ⊢
    refine lv_iload_n hx hb dX0_turnLeft_20 rfl (lv_at hl 1 rfl) ?_
    refine lv_iconst (v := 1) hx hb dX0_turnLeft_21 (by decide) ?_
    refine lv_ishl hx hb dX0_turnLeft_22 ?_
    refine lv_sipush (v := 255) hx hb dX0_turnLeft_23 (by decide) ?_
    refine lv_iand hx hb dX0_turnLeft_26 ?_
    refine lv_iload_n hx hb dX0_turnLeft_27 rfl (lv_at hl 2 rfl) ?_
    refine lv_ior hx hb dX0_turnLeft_28 ?_
    exact W.iret (v := (((a1 <<< ((1 : Int32) &&& 31)) &&& (255 : Int32)) ||| a2)) hx hb hr (fun t ht hW => ⟨⟨(((a1 <<< ((1 : Int32) &&& 31)) &&& (255 : Int32)) ||| a2), (f_X3_setCarry u (if (a1 &&& (128 : Int32)) = (0 : Int32) then false else true : Bool)), rfl, ⟨rfl, rfl⟩, by rw [ht]; exact hP, va_K.moved hW.alike hK, hD⟩, hS.F ht⟩) hS.2.2 dX0_turnLeft_29
  · skip
    refine lv_if_eq (tgt := 16) hx hb dX0_turnLeft_9 (by decide) (fun c2 => ?_) (fun c2 => ?_)
    · skip
      refine lv_iconst (v := 0) hx hb dX0_turnLeft_16 (by decide) ?_
      exact hJ1 false _ _ _ (by simp only [if_pos c2]) hP hS (lv_sub hl [0, 1, 2] rfl)
    · skip
      refine lv_iconst (v := 1) hx hb dX0_turnLeft_12 (by decide) ?_
      refine lv_goto (tgt := 17) hx hb dX0_turnLeft_13 (by decide) ?_
      exact hJ1 true _ _ _ (by simp only [if_neg c2]) hP hS (lv_sub hl [0, 1, 2] rfl)

def f_X0_turnRight (u : FS) (a1 : Int32) (a2 : Int32) : Int32 × FS := (((a1 >>> ((1 : Int32) &&& 31)) ||| (a2 <<< ((7 : Int32) &&& 31))), (f_X3_setCarry u (if (a1 &&& (1 : Int32)) = (0 : Int32) then false else true : Bool)))
theorem qX0_turnRight_0 : Cond.fieldLink RX0 9 "DiskMachine$Arithmetic" "flags" "LDiskMachine$Flags;" ∈ wsX0_turnRight := by decide +kernel
theorem iX0_turnRight_X0 : ∀ w ∈ wsX00, w ∈ wsX0_turnRight := by decide +kernel
set_option maxHeartbeats 4000000 in
set_option maxRecDepth 100000 in
theorem k_X0_turnRight (l : Launch) (dC : Nat → ClassId) (dI : Nat → Nat → Nat) (cI : ClassId) (aO fO : Nat) (sz : Nat) (u : FS) (a1 : Int32) (a2 : Int32) : Met l yX0_turnRight wsX0_turnRight ({ frames := 1, cells := 0, slots := 0, locals := 21 }) (va_Pc [.ref aO, .int a1, .int a2] (wB dC dI [(cI, .int)] sz (wA cI aO fO u))) (va_Qi (fun (r : Int32) (u' : FS) => r = (f_X0_turnRight u a1 a2).1 ∧ u' = (f_X0_turnRight u a1 a2).2) (fun u' => wE dC dI [(cI, .int)] (va_A (wA cI aO fO u) sz) (wA cI aO fO u')) (va_A (wA cI aO fO u) sz)) 0 0 (va_A (wA cI aO fO u) sz) := by
  refine Met.ofW (cc := cX0_turnRight) (maxL := 3) (ret := (some .int)) (by decide) rfl ?_
  intro p e s m args below meth c s₁ B hml hv
  obtain ⟨rfl, hsz, hP, hK, hD0⟩ := hv
  have hx := B.exec
  have hb := B.bytes
  have hr := B.returns
  have hts := atoms_spec (ws := wsX0_turnRight) B.pre
  have hown : s.vm.findClass RX0 = some m.cls := findClass_of_methodNamed B.named
  have hlocks := B.notSynchronized
  subst hsz
  have hD := hD0.self (sz := s.heap.size)
  generalize hAe : va_A (wA cI aO fO u) s.heap.size = A at hD ⊢
  have hA : ∀ q : Nat, s.heap.size ≤ q → A q := fun q h => by rw [← hAe]; exact Or.inr h
  have hS : va_S A s.heap s.heap [] := va_S.rf
  have hP : va_P (dC, dI) vwCl (wA cI aO fO u) s.heap := hP
  clear hAe hD0
  have hl := lv_entry ([.ref aO, .int a1, .int a2]) (n := 3) (Nat.le_of_ble_eq_true rfl)
  rw [lg_entry_eq]
  generalize (lg_sl ([.ref aO, .int a1, .int a2]) ++ List.replicate (3 - (lg_sl ([.ref aO, .int a1, .int a2])).length) Slot.unset).toArray = ls at hl ⊢
  have hl : lv_has ls 3 [(0, .ref aO), (1, .int a1), (2, .int a2)] := hl
  refine jn_H hP hS (fun H locs hP hS => ?_)
  refine lv_aload_n hx hb dX0_turnRight_0 rfl (lv_at hl 0 rfl) ?_
  refine va_get (D := (dC, dI)) (ci := 0) (v := .ref fO) (C := RX0) (T := TX0) (N := 1) hx hb hts iX0_turnRight_X0 hown hK hP 0 rfl rfl 0 (by decide) (hts _ qX0_turnRight_0) (fun _ h9 => h9) rfl dX0_turnRight_1 ?_
  refine lv_iload_n hx hb dX0_turnRight_4 rfl (lv_at hl 1 rfl) ?_
  refine lv_iconst (v := 1) hx hb dX0_turnRight_5 (by decide) ?_
  refine lv_iand hx hb dX0_turnRight_6 ?_
  refine jn_b (D := (dC, dI)) (cl := vwCl) (ws := (wA cI aO fO u)) (A := A) (H0 := s.heap) (nL := 3) 15 (if (a1 &&& (1 : Int32)) = (0 : Int32) then false else true : Bool) [(0, .ref aO), (1, .int a1), (2, .int a2)] [.ref fO] (fun H locs ls hP hS hl => ?_) (fun hJ1 => ?_)
  · skip
    obtain ⟨hPc, hDc, hFc⟩ := xA_F hP hD hS hA
    have hKc := hK.sub (tys' := [(cI, .int)]) [0] rfl
    refine va_callv (va_runV (As := [.int (bI (if (a1 &&& (1 : Int32)) = (0 : Int32) then false else true : Bool))]) (rest := []) ⟨hx, hb, hml, hown, hts⟩ (k_X3_setCarry l dC dI cI fO H.size u (if (a1 &&& (1 : Int32)) = (0 : Int32) then false else true : Bool)) (cwV 1 hts gX0_turnRight_X3_setCarry rfl rfl rfl (by decide +kernel) ⟨Nat.le_of_ble_eq_true rfl, Nat.le_of_ble_eq_true rfl⟩) ⟨fun a U g mk q => by obtain ⟨q0, q1, qP, qK, qD⟩ := q; exact ⟨q0, q1, qP, va_K.moved (u := U) (U := U.calling g mk a) (Vm.Alike.refl U.vm) qK, qD⟩, va_recv hKc hPc (ci := 3) (q0 := 0) rfl rfl, fun U hU hW => ⟨rfl, by rw [hU], by rw [hU]; exact hPc, va_K.moved hW.alike hKc, hDc.weaken (fun _ _ _ _ => trivial)⟩⟩ rfl rfl hl.1 rfl (lv_room (Nat.le_of_ble_eq_true rfl)) dX0_turnRight_15 ⟨Nat.le_of_ble_eq_true rfl, Nat.le_of_ble_eq_true rfl⟩) hS (fun q _ h => hFc q h) hFc (fun u9 t H1 locs ht hvm hw hB hz1 hk1 hS => ?_)
    subst hw
    obtain ⟨hP1, hK1, hD1⟩ := hB
    rw [ht] at hP1
    obtain ⟨hP, hD⟩ := jA_F hP hD hk1 hFc hP1 hD1
    clear hPc hDc hKc hFc hz1 hk1 hP1 hK1 hD1 ht hvm
    generalize H1 = H at hP hS ⊢
    refine lv_iload_n hx hb dX0_turnRight_18 rfl (lv_at hl 1 rfl) ?_
    refine lv_iconst (v := 1) hx hb dX0_turnRight_19 (by decide) ?_
    refine lv_ishr hx hb dX0_turnRight_20 ?_
    refine lv_iload_n hx hb dX0_turnRight_21 rfl (lv_at hl 2 rfl) ?_
    refine lv_bipush (v := 7) hx hb dX0_turnRight_22 (by decide) ?_
    refine lv_ishl hx hb dX0_turnRight_24 ?_
    refine lv_ior hx hb dX0_turnRight_25 ?_
    exact W.iret (v := ((a1 >>> ((1 : Int32) &&& 31)) ||| (a2 <<< ((7 : Int32) &&& 31)))) hx hb hr (fun t ht hW => ⟨⟨((a1 >>> ((1 : Int32) &&& 31)) ||| (a2 <<< ((7 : Int32) &&& 31))), (f_X3_setCarry u (if (a1 &&& (1 : Int32)) = (0 : Int32) then false else true : Bool)), rfl, ⟨rfl, rfl⟩, by rw [ht]; exact hP, va_K.moved hW.alike hK, hD⟩, hS.F ht⟩) hS.2.2 dX0_turnRight_26
  · skip
    refine lv_if_eq (tgt := 14) hx hb dX0_turnRight_7 (by decide) (fun c2 => ?_) (fun c2 => ?_)
    · skip
      refine lv_iconst (v := 0) hx hb dX0_turnRight_14 (by decide) ?_
      exact hJ1 false _ _ _ (by simp only [if_pos c2]) hP hS (lv_sub hl [0, 1, 2] rfl)
    · skip
      refine lv_iconst (v := 1) hx hb dX0_turnRight_10 (by decide) ?_
      refine lv_goto (tgt := 15) hx hb dX0_turnRight_11 (by decide) ?_
      exact hJ1 true _ _ _ (by simp only [if_neg c2]) hP hS (lv_sub hl [0, 1, 2] rfl)

def f_X0_toDecimal (u : FS) (a1 : Int32) : Int32 × FS := ((((a1 + (if (bI (if (9 : Int32) < (a1 &&& (15 : Int32)) then true else (if (bI (f_X3_hasHalf u)) = (0 : Int32) then false else true : Bool) : Bool)) = (0 : Int32) then 0 else 6 : Int32)) + (if (bI (if (9 : Int32) < (a1 >>> ((4 : Int32) &&& 31)) then true else (if (bI (f_X3_hasCarry u)) = (0 : Int32) then (if (a1 >>> ((4 : Int32) &&& 31)) = (9 : Int32) then (if (a1 &&& (15 : Int32)) ≤ (9 : Int32) then false else true : Bool) else false : Bool) else true : Bool) : Bool)) = (0 : Int32) then 0 else 96 : Int32)) &&& (255 : Int32)), (f_X3_setLogic (f_X3_setCarry (f_X3_setHalf u (if (bI (if (9 : Int32) < (a1 &&& (15 : Int32)) then true else (if (bI (f_X3_hasHalf u)) = (0 : Int32) then false else true : Bool) : Bool)) = (0 : Int32) then false else (if ((a1 &&& (15 : Int32)) + (6 : Int32)) ≤ (15 : Int32) then false else true : Bool) : Bool)) (if (9 : Int32) < (a1 >>> ((4 : Int32) &&& 31)) then true else (if (bI (f_X3_hasCarry u)) = (0 : Int32) then (if (a1 >>> ((4 : Int32) &&& 31)) = (9 : Int32) then (if (a1 &&& (15 : Int32)) ≤ (9 : Int32) then false else true : Bool) else false : Bool) else true : Bool) : Bool)) (((a1 + (if (bI (if (9 : Int32) < (a1 &&& (15 : Int32)) then true else (if (bI (f_X3_hasHalf u)) = (0 : Int32) then false else true : Bool) : Bool)) = (0 : Int32) then 0 else 6 : Int32)) + (if (bI (if (9 : Int32) < (a1 >>> ((4 : Int32) &&& 31)) then true else (if (bI (f_X3_hasCarry u)) = (0 : Int32) then (if (a1 >>> ((4 : Int32) &&& 31)) = (9 : Int32) then (if (a1 &&& (15 : Int32)) ≤ (9 : Int32) then false else true : Bool) else false : Bool) else true : Bool) : Bool)) = (0 : Int32) then 0 else 96 : Int32)) &&& (255 : Int32))))
theorem qX0_toDecimal_0 : Cond.fieldLink RX0 9 "DiskMachine$Arithmetic" "flags" "LDiskMachine$Flags;" ∈ wsX0_toDecimal := by decide +kernel
theorem iX0_toDecimal_X0 : ∀ w ∈ wsX00, w ∈ wsX0_toDecimal := by decide +kernel
set_option maxHeartbeats 4000000 in
set_option maxRecDepth 100000 in
theorem k_X0_toDecimal (l : Launch) (dC : Nat → ClassId) (dI : Nat → Nat → Nat) (cI : ClassId) (aO fO : Nat) (sz : Nat) (u : FS) (a1 : Int32) : Met l yX0_toDecimal wsX0_toDecimal ({ frames := 2, cells := 0, slots := 0, locals := 41 }) (va_Pc [.ref aO, .int a1] (wB dC dI [(cI, .int)] sz (wA cI aO fO u))) (va_Qi (fun (r : Int32) (u' : FS) => r = (f_X0_toDecimal u a1).1 ∧ u' = (f_X0_toDecimal u a1).2) (fun u' => wE dC dI [(cI, .int)] (va_A (wA cI aO fO u) sz) (wA cI aO fO u')) (va_A (wA cI aO fO u) sz)) 0 0 (va_A (wA cI aO fO u) sz) := by
  refine Met.ofW (cc := cX0_toDecimal) (maxL := 7) (ret := (some .int)) (by decide) rfl ?_
  intro p e s m args below meth c s₁ B hml hv
  obtain ⟨rfl, hsz, hP, hK, hD0⟩ := hv
  have hx := B.exec
  have hb := B.bytes
  have hr := B.returns
  have hts := atoms_spec (ws := wsX0_toDecimal) B.pre
  have hown : s.vm.findClass RX0 = some m.cls := findClass_of_methodNamed B.named
  have hlocks := B.notSynchronized
  subst hsz
  have hD := hD0.self (sz := s.heap.size)
  generalize hAe : va_A (wA cI aO fO u) s.heap.size = A at hD ⊢
  have hA : ∀ q : Nat, s.heap.size ≤ q → A q := fun q h => by rw [← hAe]; exact Or.inr h
  have hS : va_S A s.heap s.heap [] := va_S.rf
  have hP : va_P (dC, dI) vwCl (wA cI aO fO u) s.heap := hP
  clear hAe hD0
  have hl := lv_entry ([.ref aO, .int a1]) (n := 7) (Nat.le_of_ble_eq_true rfl)
  rw [lg_entry_eq]
  generalize (lg_sl ([.ref aO, .int a1]) ++ List.replicate (7 - (lg_sl ([.ref aO, .int a1])).length) Slot.unset).toArray = ls at hl ⊢
  have hl : lv_has ls 7 [(0, .ref aO), (1, .int a1)] := hl
  refine jn_H hP hS (fun H locs hP hS => ?_)
  refine lv_iload_n hx hb dX0_toDecimal_0 rfl (lv_at hl 1 rfl) ?_
  refine lv_bipush (v := 15) hx hb dX0_toDecimal_1 (by decide) ?_
  refine lv_iand hx hb dX0_toDecimal_3 ?_
  refine lv_istore_n (lv' := [(2, .int (a1 &&& (15 : Int32))), (0, .ref aO), (1, .int a1)]) hx hb dX0_toDecimal_4 rfl hl (by decide) rfl (fun ls hl => ?_)
  refine lv_iload_n hx hb dX0_toDecimal_5 rfl (lv_at hl 2 rfl) ?_
  refine lv_iconst (v := 4) hx hb dX0_toDecimal_6 (by decide) ?_
  refine lv_ishr hx hb dX0_toDecimal_7 ?_
  refine lv_istore_n (lv' := [(3, .int (a1 >>> ((4 : Int32) &&& 31))), (2, .int (a1 &&& (15 : Int32))), (0, .ref aO), (1, .int a1)]) hx hb dX0_toDecimal_8 rfl hl (by decide) rfl (fun ls hl => ?_)
  refine lv_iload_n hx hb dX0_toDecimal_9 rfl (lv_at hl 1 rfl) ?_
  refine lv_bipush (v := 9) hx hb dX0_toDecimal_10 (by decide) ?_
  refine jn_b (D := (dC, dI)) (cl := vwCl) (ws := (wA cI aO fO u)) (A := A) (H0 := s.heap) (nL := 7) 30 (if (9 : Int32) < (a1 &&& (15 : Int32)) then true else (if (bI (f_X3_hasHalf u)) = (0 : Int32) then false else true : Bool) : Bool) [(0, .ref aO), (1, .int a1), (2, .int (a1 &&& (15 : Int32))), (3, .int (a1 >>> ((4 : Int32) &&& 31)))] [] (fun H locs ls hP hS hl => ?_) (fun hJ1 => ?_)
  · skip
    refine lv_istore (lv' := [(4, .int (bI (if (9 : Int32) < (a1 &&& (15 : Int32)) then true else (if (bI (f_X3_hasHalf u)) = (0 : Int32) then false else true : Bool) : Bool))), (0, .ref aO), (1, .int a1), (2, .int (a1 &&& (15 : Int32))), (3, .int (a1 >>> ((4 : Int32) &&& 31)))]) hx hb dX0_toDecimal_30 hl (by decide) rfl (fun ls hl => ?_)
    refine lv_iload_n hx hb dX0_toDecimal_32 rfl (lv_at hl 4 rfl) ?_
    refine lv_bipush (v := 9) hx hb dX0_toDecimal_33 (by decide) ?_
    refine jn_b (D := (dC, dI)) (cl := vwCl) (ws := (wA cI aO fO u)) (A := A) (H0 := s.heap) (nL := 7) 65 (if (9 : Int32) < (a1 >>> ((4 : Int32) &&& 31)) then true else (if (bI (f_X3_hasCarry u)) = (0 : Int32) then (if (a1 >>> ((4 : Int32) &&& 31)) = (9 : Int32) then (if (a1 &&& (15 : Int32)) ≤ (9 : Int32) then false else true : Bool) else false : Bool) else true : Bool) : Bool) [(0, .ref aO), (1, .int a1), (2, .int (a1 &&& (15 : Int32))), (3, .int (a1 >>> ((4 : Int32) &&& 31))), (4, .int (bI (if (9 : Int32) < (a1 &&& (15 : Int32)) then true else (if (bI (f_X3_hasHalf u)) = (0 : Int32) then false else true : Bool) : Bool)))] [] (fun H locs ls hP hS hl => ?_) (fun hJ2 => ?_)
    · skip
      refine lv_istore (lv' := [(5, .int (bI (if (9 : Int32) < (a1 >>> ((4 : Int32) &&& 31)) then true else (if (bI (f_X3_hasCarry u)) = (0 : Int32) then (if (a1 >>> ((4 : Int32) &&& 31)) = (9 : Int32) then (if (a1 &&& (15 : Int32)) ≤ (9 : Int32) then false else true : Bool) else false : Bool) else true : Bool) : Bool))), (0, .ref aO), (1, .int a1), (2, .int (a1 &&& (15 : Int32))), (3, .int (a1 >>> ((4 : Int32) &&& 31))), (4, .int (bI (if (9 : Int32) < (a1 &&& (15 : Int32)) then true else (if (bI (f_X3_hasHalf u)) = (0 : Int32) then false else true : Bool) : Bool)))]) hx hb dX0_toDecimal_65 hl (by decide) rfl (fun ls hl => ?_)
      refine lv_iload_n hx hb dX0_toDecimal_67 rfl (lv_at hl 2 rfl) ?_
      refine lv_iload hx hb dX0_toDecimal_68 (lv_at hl 5 rfl) ?_
      refine jn_i (D := (dC, dI)) (cl := vwCl) (ws := (wA cI aO fO u)) (A := A) (H0 := s.heap) (nL := 7) 79 (if (bI (if (9 : Int32) < (a1 &&& (15 : Int32)) then true else (if (bI (f_X3_hasHalf u)) = (0 : Int32) then false else true : Bool) : Bool)) = (0 : Int32) then 0 else 6 : Int32) [(0, .ref aO), (1, .int a1), (2, .int (a1 &&& (15 : Int32))), (3, .int (a1 >>> ((4 : Int32) &&& 31))), (4, .int (bI (if (9 : Int32) < (a1 &&& (15 : Int32)) then true else (if (bI (f_X3_hasHalf u)) = (0 : Int32) then false else true : Bool) : Bool))), (5, .int (bI (if (9 : Int32) < (a1 >>> ((4 : Int32) &&& 31)) then true else (if (bI (f_X3_hasCarry u)) = (0 : Int32) then (if (a1 >>> ((4 : Int32) &&& 31)) = (9 : Int32) then (if (a1 &&& (15 : Int32)) ≤ (9 : Int32) then false else true : Bool) else false : Bool) else true : Bool) : Bool)))] [.int a1] (fun H locs ls hP hS hl => ?_) (fun hJ3 => ?_)
      · skip
        refine lv_iadd hx hb dX0_toDecimal_79 ?_
        refine lv_iload hx hb dX0_toDecimal_80 (lv_at hl 5 rfl) ?_
        refine jn_i (D := (dC, dI)) (cl := vwCl) (ws := (wA cI aO fO u)) (A := A) (H0 := s.heap) (nL := 7) 91 (if (bI (if (9 : Int32) < (a1 >>> ((4 : Int32) &&& 31)) then true else (if (bI (f_X3_hasCarry u)) = (0 : Int32) then (if (a1 >>> ((4 : Int32) &&& 31)) = (9 : Int32) then (if (a1 &&& (15 : Int32)) ≤ (9 : Int32) then false else true : Bool) else false : Bool) else true : Bool) : Bool)) = (0 : Int32) then 0 else 96 : Int32) [(0, .ref aO), (1, .int a1), (2, .int (a1 &&& (15 : Int32))), (3, .int (a1 >>> ((4 : Int32) &&& 31))), (4, .int (bI (if (9 : Int32) < (a1 &&& (15 : Int32)) then true else (if (bI (f_X3_hasHalf u)) = (0 : Int32) then false else true : Bool) : Bool))), (5, .int (bI (if (9 : Int32) < (a1 >>> ((4 : Int32) &&& 31)) then true else (if (bI (f_X3_hasCarry u)) = (0 : Int32) then (if (a1 >>> ((4 : Int32) &&& 31)) = (9 : Int32) then (if (a1 &&& (15 : Int32)) ≤ (9 : Int32) then false else true : Bool) else false : Bool) else true : Bool) : Bool)))] [.int (a1 + (if (bI (if (9 : Int32) < (a1 &&& (15 : Int32)) then true else (if (bI (f_X3_hasHalf u)) = (0 : Int32) then false else true : Bool) : Bool)) = (0 : Int32) then 0 else 6 : Int32))] (fun H locs ls hP hS hl => ?_) (fun hJ4 => ?_)
        · skip
          refine lv_iadd hx hb dX0_toDecimal_91 ?_
          refine lv_sipush (v := 255) hx hb dX0_toDecimal_92 (by decide) ?_
          refine lv_iand hx hb dX0_toDecimal_95 ?_
          refine lv_topi (fun y5 ey5 => ?_)
          refine lv_istore (lv' := [(6, .int y5), (0, .ref aO), (1, .int a1), (2, .int (a1 &&& (15 : Int32))), (3, .int (a1 >>> ((4 : Int32) &&& 31))), (4, .int (bI (if (9 : Int32) < (a1 &&& (15 : Int32)) then true else (if (bI (f_X3_hasHalf u)) = (0 : Int32) then false else true : Bool) : Bool))), (5, .int (bI (if (9 : Int32) < (a1 >>> ((4 : Int32) &&& 31)) then true else (if (bI (f_X3_hasCarry u)) = (0 : Int32) then (if (a1 >>> ((4 : Int32) &&& 31)) = (9 : Int32) then (if (a1 &&& (15 : Int32)) ≤ (9 : Int32) then false else true : Bool) else false : Bool) else true : Bool) : Bool)))]) hx hb dX0_toDecimal_96 hl (by decide) rfl (fun ls hl => ?_)
          refine lv_aload_n hx hb dX0_toDecimal_98 rfl (lv_at hl 1 rfl) ?_
          refine va_get (D := (dC, dI)) (ci := 0) (v := .ref fO) (C := RX0) (T := TX0) (N := 1) hx hb hts iX0_toDecimal_X0 hown hK hP 0 rfl rfl 0 (by decide) (hts _ qX0_toDecimal_0) (fun _ h9 => h9) rfl dX0_toDecimal_99 ?_
          refine lv_iload hx hb dX0_toDecimal_102 (lv_at hl 5 rfl) ?_
          refine jn_b (D := (dC, dI)) (cl := vwCl) (ws := (wA cI aO fO u)) (A := A) (H0 := s.heap) (nL := 7) 121 (if (bI (if (9 : Int32) < (a1 &&& (15 : Int32)) then true else (if (bI (f_X3_hasHalf u)) = (0 : Int32) then false else true : Bool) : Bool)) = (0 : Int32) then false else (if ((a1 &&& (15 : Int32)) + (6 : Int32)) ≤ (15 : Int32) then false else true : Bool) : Bool) [(0, .ref aO), (1, .int a1), (2, .int (a1 &&& (15 : Int32))), (3, .int (a1 >>> ((4 : Int32) &&& 31))), (4, .int (bI (if (9 : Int32) < (a1 &&& (15 : Int32)) then true else (if (bI (f_X3_hasHalf u)) = (0 : Int32) then false else true : Bool) : Bool))), (5, .int (bI (if (9 : Int32) < (a1 >>> ((4 : Int32) &&& 31)) then true else (if (bI (f_X3_hasCarry u)) = (0 : Int32) then (if (a1 >>> ((4 : Int32) &&& 31)) = (9 : Int32) then (if (a1 &&& (15 : Int32)) ≤ (9 : Int32) then false else true : Bool) else false : Bool) else true : Bool) : Bool))), (6, .int y5)] [.ref fO] (fun H locs ls hP hS hl => ?_) (fun hJ6 => ?_)
          · skip
            obtain ⟨hPc, hDc, hFc⟩ := xA_F hP hD hS hA
            have hKc := hK.sub (tys' := [(cI, .int)]) [0] rfl
            refine va_callv (va_runV (As := [.int (bI (if (bI (if (9 : Int32) < (a1 &&& (15 : Int32)) then true else (if (bI (f_X3_hasHalf u)) = (0 : Int32) then false else true : Bool) : Bool)) = (0 : Int32) then false else (if ((a1 &&& (15 : Int32)) + (6 : Int32)) ≤ (15 : Int32) then false else true : Bool) : Bool))]) (rest := []) ⟨hx, hb, hml, hown, hts⟩ (k_X3_setHalf l dC dI cI fO H.size u (if (bI (if (9 : Int32) < (a1 &&& (15 : Int32)) then true else (if (bI (f_X3_hasHalf u)) = (0 : Int32) then false else true : Bool) : Bool)) = (0 : Int32) then false else (if ((a1 &&& (15 : Int32)) + (6 : Int32)) ≤ (15 : Int32) then false else true : Bool) : Bool)) (cwV 1 hts gX0_toDecimal_X3_setHalf rfl rfl rfl (by decide +kernel) ⟨Nat.le_of_ble_eq_true rfl, Nat.le_of_ble_eq_true rfl⟩) ⟨fun a U g mk q => by obtain ⟨q0, q1, qP, qK, qD⟩ := q; exact ⟨q0, q1, qP, va_K.moved (u := U) (U := U.calling g mk a) (Vm.Alike.refl U.vm) qK, qD⟩, va_recv hKc hPc (ci := 3) (q0 := 0) rfl rfl, fun U hU hW => ⟨rfl, by rw [hU], by rw [hU]; exact hPc, va_K.moved hW.alike hKc, hDc.weaken (fun _ _ _ _ => trivial)⟩⟩ rfl rfl hl.1 rfl (lv_room (Nat.le_of_ble_eq_true rfl)) dX0_toDecimal_121 ⟨Nat.le_of_ble_eq_true rfl, Nat.le_of_ble_eq_true rfl⟩) hS (fun q _ h => hFc q h) hFc (fun u9 t H1 locs ht hvm hw hB hz1 hk1 hS => ?_)
            subst hw
            obtain ⟨hP1, hK1, hD1⟩ := hB
            rw [ht] at hP1
            obtain ⟨hP, hD⟩ := jA_F hP hD hk1 hFc hP1 hD1
            clear hPc hDc hKc hFc hz1 hk1 hP1 hK1 hD1 ht hvm
            generalize H1 = H at hP hS ⊢
            refine lv_aload_n hx hb dX0_toDecimal_124 rfl (lv_at hl 0 rfl) ?_
            refine va_get (D := (dC, dI)) (ci := 0) (v := .ref fO) (C := RX0) (T := TX0) (N := 1) hx hb hts iX0_toDecimal_X0 hown hK hP 0 rfl rfl 0 (by decide) (hts _ qX0_toDecimal_0) (fun _ h9 => h9) rfl dX0_toDecimal_125 ?_
            refine lv_iload hx hb dX0_toDecimal_128 (lv_at hl 5 rfl) ?_
            obtain ⟨hPc, hDc, hFc⟩ := xA_F hP hD hS hA
            have hKc := hK.sub (tys' := [(cI, .int)]) [0] rfl
            refine va_callv (va_runV (As := [.int (bI (if (9 : Int32) < (a1 >>> ((4 : Int32) &&& 31)) then true else (if (bI (f_X3_hasCarry u)) = (0 : Int32) then (if (a1 >>> ((4 : Int32) &&& 31)) = (9 : Int32) then (if (a1 &&& (15 : Int32)) ≤ (9 : Int32) then false else true : Bool) else false : Bool) else true : Bool) : Bool))]) (rest := []) ⟨hx, hb, hml, hown, hts⟩ (k_X3_setCarry l dC dI cI fO H.size (f_X3_setHalf u (if (bI (if (9 : Int32) < (a1 &&& (15 : Int32)) then true else (if (bI (f_X3_hasHalf u)) = (0 : Int32) then false else true : Bool) : Bool)) = (0 : Int32) then false else (if ((a1 &&& (15 : Int32)) + (6 : Int32)) ≤ (15 : Int32) then false else true : Bool) : Bool)) (if (9 : Int32) < (a1 >>> ((4 : Int32) &&& 31)) then true else (if (bI (f_X3_hasCarry u)) = (0 : Int32) then (if (a1 >>> ((4 : Int32) &&& 31)) = (9 : Int32) then (if (a1 &&& (15 : Int32)) ≤ (9 : Int32) then false else true : Bool) else false : Bool) else true : Bool) : Bool)) (cwV 1 hts gX0_toDecimal_X3_setCarry rfl rfl rfl (by decide +kernel) ⟨Nat.le_of_ble_eq_true rfl, Nat.le_of_ble_eq_true rfl⟩) ⟨fun a U g mk q => by obtain ⟨q0, q1, qP, qK, qD⟩ := q; exact ⟨q0, q1, qP, va_K.moved (u := U) (U := U.calling g mk a) (Vm.Alike.refl U.vm) qK, qD⟩, va_recv hKc hPc (ci := 3) (q0 := 0) rfl rfl, fun U hU hW => ⟨rfl, by rw [hU], by rw [hU]; exact hPc, va_K.moved hW.alike hKc, hDc.weaken (fun _ _ _ _ => trivial)⟩⟩ rfl rfl hl.1 rfl (lv_room (Nat.le_of_ble_eq_true rfl)) dX0_toDecimal_130 ⟨Nat.le_of_ble_eq_true rfl, Nat.le_of_ble_eq_true rfl⟩) hS (fun q _ h => hFc q h) hFc (fun u9 t H1 locs ht hvm hw hB hz1 hk1 hS => ?_)
            subst hw
            obtain ⟨hP1, hK1, hD1⟩ := hB
            rw [ht] at hP1
            obtain ⟨hP, hD⟩ := jA_F hP hD hk1 hFc hP1 hD1
            clear hPc hDc hKc hFc hz1 hk1 hP1 hK1 hD1 ht hvm
            generalize H1 = H at hP hS ⊢
            refine lv_aload_n hx hb dX0_toDecimal_133 rfl (lv_at hl 0 rfl) ?_
            refine va_get (D := (dC, dI)) (ci := 0) (v := .ref fO) (C := RX0) (T := TX0) (N := 1) hx hb hts iX0_toDecimal_X0 hown hK hP 0 rfl rfl 0 (by decide) (hts _ qX0_toDecimal_0) (fun _ h9 => h9) rfl dX0_toDecimal_134 ?_
            refine lv_iload hx hb dX0_toDecimal_137 (lv_at hl 6 rfl) ?_
            obtain ⟨hPc, hDc, hFc⟩ := xA_F hP hD hS hA
            have hKc := hK.sub (tys' := [(cI, .int)]) [0] rfl
            refine va_callv (va_runV (As := [.int y5]) (rest := []) ⟨hx, hb, hml, hown, hts⟩ (k_X3_setLogic l dC dI cI fO H.size (f_X3_setCarry (f_X3_setHalf u (if (bI (if (9 : Int32) < (a1 &&& (15 : Int32)) then true else (if (bI (f_X3_hasHalf u)) = (0 : Int32) then false else true : Bool) : Bool)) = (0 : Int32) then false else (if ((a1 &&& (15 : Int32)) + (6 : Int32)) ≤ (15 : Int32) then false else true : Bool) : Bool)) (if (9 : Int32) < (a1 >>> ((4 : Int32) &&& 31)) then true else (if (bI (f_X3_hasCarry u)) = (0 : Int32) then (if (a1 >>> ((4 : Int32) &&& 31)) = (9 : Int32) then (if (a1 &&& (15 : Int32)) ≤ (9 : Int32) then false else true : Bool) else false : Bool) else true : Bool) : Bool)) y5) (cwV 1 hts gX0_toDecimal_X3_setLogic rfl rfl rfl (by decide +kernel) ⟨Nat.le_of_ble_eq_true rfl, Nat.le_of_ble_eq_true rfl⟩) ⟨fun a U g mk q => by obtain ⟨q0, q1, qP, qK, qD⟩ := q; exact ⟨q0, q1, qP, va_K.moved (u := U) (U := U.calling g mk a) (Vm.Alike.refl U.vm) qK, qD⟩, va_recv hKc hPc (ci := 3) (q0 := 0) rfl rfl, fun U hU hW => ⟨rfl, by rw [hU], by rw [hU]; exact hPc, va_K.moved hW.alike hKc, hDc.weaken (fun _ _ _ _ => trivial)⟩⟩ rfl rfl hl.1 rfl (lv_room (Nat.le_of_ble_eq_true rfl)) dX0_toDecimal_139 ⟨Nat.le_of_ble_eq_true rfl, Nat.le_of_ble_eq_true rfl⟩) hS (fun q _ h => hFc q h) hFc (fun u9 t H1 locs ht hvm hw hB hz1 hk1 hS => ?_)
            subst hw
            obtain ⟨hP1, hK1, hD1⟩ := hB
            rw [ht] at hP1
            obtain ⟨hP, hD⟩ := jA_F hP hD hk1 hFc hP1 hD1
            clear hPc hDc hKc hFc hz1 hk1 hP1 hK1 hD1 ht hvm
            generalize H1 = H at hP hS ⊢
            refine lv_iload hx hb dX0_toDecimal_142 (lv_at hl 6 rfl) ?_
            exact W.iret (v := y5) hx hb hr (fun t ht hW => ⟨⟨y5, (f_X3_setLogic (f_X3_setCarry (f_X3_setHalf u (if (bI (if (9 : Int32) < (a1 &&& (15 : Int32)) then true else (if (bI (f_X3_hasHalf u)) = (0 : Int32) then false else true : Bool) : Bool)) = (0 : Int32) then false else (if ((a1 &&& (15 : Int32)) + (6 : Int32)) ≤ (15 : Int32) then false else true : Bool) : Bool)) (if (9 : Int32) < (a1 >>> ((4 : Int32) &&& 31)) then true else (if (bI (f_X3_hasCarry u)) = (0 : Int32) then (if (a1 >>> ((4 : Int32) &&& 31)) = (9 : Int32) then (if (a1 &&& (15 : Int32)) ≤ (9 : Int32) then false else true : Bool) else false : Bool) else true : Bool) : Bool)) y5), rfl, ⟨(by subst ey5; rfl), (by subst ey5; rfl)⟩, by rw [ht]; exact hP, va_K.moved hW.alike hK, hD⟩, hS.F ht⟩) hS.2.2 dX0_toDecimal_144
          · skip
            refine lv_if_eq (tgt := 120) hx hb dX0_toDecimal_104 (by decide) (fun c7 => ?_) (fun c7 => ?_)
            · skip
              refine lv_iconst (v := 0) hx hb dX0_toDecimal_120 (by decide) ?_
              exact hJ6 false _ _ _ (by simp only [if_pos c7]) hP hS (lv_sub hl [1, 2, 3, 4, 5, 6, 0] rfl)
            · skip
              refine lv_iload_n hx hb dX0_toDecimal_107 rfl (lv_at hl 3 rfl) ?_
              refine lv_bipush (v := 6) hx hb dX0_toDecimal_108 (by decide) ?_
              refine lv_iadd hx hb dX0_toDecimal_110 ?_
              refine lv_bipush (v := 15) hx hb dX0_toDecimal_111 (by decide) ?_
              refine jn_b (D := (dC, dI)) (cl := vwCl) (ws := (wA cI aO fO u)) (A := A) (H0 := s.heap) (nL := 7) 121 (if ((a1 &&& (15 : Int32)) + (6 : Int32)) ≤ (15 : Int32) then false else true : Bool) [(0, .ref aO), (1, .int a1), (2, .int (a1 &&& (15 : Int32))), (3, .int (a1 >>> ((4 : Int32) &&& 31))), (4, .int (bI (if (9 : Int32) < (a1 &&& (15 : Int32)) then true else (if (bI (f_X3_hasHalf u)) = (0 : Int32) then false else true : Bool) : Bool))), (5, .int (bI (if (9 : Int32) < (a1 >>> ((4 : Int32) &&& 31)) then true else (if (bI (f_X3_hasCarry u)) = (0 : Int32) then (if (a1 >>> ((4 : Int32) &&& 31)) = (9 : Int32) then (if (a1 &&& (15 : Int32)) ≤ (9 : Int32) then false else true : Bool) else false : Bool) else true : Bool) : Bool))), (6, .int y5)] [.ref fO] (fun H locs ls hP hS hl => ?_) (fun hJ8 => ?_)
              · skip
                exact hJ6 (if ((a1 &&& (15 : Int32)) + (6 : Int32)) ≤ (15 : Int32) then false else true : Bool) _ _ _ (by simp only [if_neg c7]) hP hS (lv_sub hl [0, 1, 2, 3, 4, 5, 6] rfl)
              · skip
                refine lv_icmp_le (tgt := 120) hx hb dX0_toDecimal_113 (by decide) (fun c9 => ?_) (fun c9 => ?_)
                · skip
                  refine lv_iconst (v := 0) hx hb dX0_toDecimal_120 (by decide) ?_
                  exact hJ8 false _ _ _ (by simp only [if_pos c9]) hP hS (lv_sub hl [1, 2, 3, 4, 5, 6, 0] rfl)
                · skip
                  refine lv_iconst (v := 1) hx hb dX0_toDecimal_116 (by decide) ?_
                  refine lv_goto (tgt := 121) hx hb dX0_toDecimal_117 (by decide) ?_
                  exact hJ8 true _ _ _ (by simp only [if_neg c9]) hP hS (lv_sub hl [1, 2, 3, 4, 5, 6, 0] rfl)
        · skip
          refine lv_if_eq (tgt := 90) hx hb dX0_toDecimal_82 (by decide) (fun c10 => ?_) (fun c10 => ?_)
          · skip
            refine lv_iconst (v := 0) hx hb dX0_toDecimal_90 (by decide) ?_
            exact hJ4 0 _ _ _ (by simp only [if_pos c10]) hP hS (lv_sub hl [0, 1, 2, 3, 4, 5] rfl)
          · skip
            refine lv_bipush (v := 96) hx hb dX0_toDecimal_85 (by decide) ?_
            refine lv_goto (tgt := 91) hx hb dX0_toDecimal_87 (by decide) ?_
            exact hJ4 96 _ _ _ (by simp only [if_neg c10]) hP hS (lv_sub hl [0, 1, 2, 3, 4, 5] rfl)
      · skip
        refine lv_if_eq (tgt := 78) hx hb dX0_toDecimal_70 (by decide) (fun c11 => ?_) (fun c11 => ?_)
        · skip
          refine lv_iconst (v := 0) hx hb dX0_toDecimal_78 (by decide) ?_
          exact hJ3 0 _ _ _ (by simp only [if_pos c11]) hP hS (lv_sub hl [1, 2, 3, 4, 5, 0] rfl)
        · skip
          refine lv_bipush (v := 6) hx hb dX0_toDecimal_73 (by decide) ?_
          refine lv_goto (tgt := 79) hx hb dX0_toDecimal_75 (by decide) ?_
          exact hJ3 6 _ _ _ (by simp only [if_neg c11]) hP hS (lv_sub hl [1, 2, 3, 4, 5, 0] rfl)
    · skip
      refine lv_icmp_gt (tgt := 60) hx hb dX0_toDecimal_35 (by decide) (fun c12 => ?_) (fun c12 => ?_)
      · skip
        refine lv_iconst (v := 1) hx hb dX0_toDecimal_60 (by decide) ?_
        refine lv_goto (tgt := 65) hx hb dX0_toDecimal_61 (by decide) ?_
        exact hJ2 true _ _ _ (by simp only [if_pos c12]) hP hS (lv_sub hl [1, 2, 3, 4, 0] rfl)
      · skip
        refine lv_aload_n hx hb dX0_toDecimal_38 rfl (lv_at hl 1 rfl) ?_
        refine va_get (D := (dC, dI)) (ci := 0) (v := .ref fO) (C := RX0) (T := TX0) (N := 1) hx hb hts iX0_toDecimal_X0 hown hK hP 0 rfl rfl 0 (by decide) (hts _ qX0_toDecimal_0) (fun _ h9 => h9) rfl dX0_toDecimal_39 ?_
        obtain ⟨hPc, hDc, hFc⟩ := xA_F hP hD hS hA
        have hKc := hK.sub (tys' := [(cI, .int)]) [0] rfl
        refine va_calli (va_runV (As := []) (rest := []) ⟨hx, hb, hml, hown, hts⟩ (k_X3_hasCarry l dC dI cI fO H.size u) (cwV 0 hts gX0_toDecimal_X3_hasCarry rfl rfl rfl (by decide +kernel) ⟨Nat.le_of_ble_eq_true rfl, Nat.le_of_ble_eq_true rfl⟩) ⟨fun a U g mk q => by obtain ⟨q0, q1, qP, qK, qD⟩ := q; exact ⟨q0, q1, qP, va_K.moved (u := U) (U := U.calling g mk a) (Vm.Alike.refl U.vm) qK, qD⟩, va_recv hKc hPc (ci := 3) (q0 := 0) rfl rfl, fun U hU hW => ⟨rfl, by rw [hU], by rw [hU]; exact hPc, va_K.moved hW.alike hKc, hDc.weaken (fun _ _ _ _ => trivial)⟩⟩ rfl rfl hl.1 rfl (lv_room (Nat.le_of_ble_eq_true rfl)) dX0_toDecimal_42 ⟨Nat.le_of_ble_eq_true rfl, Nat.le_of_ble_eq_true rfl⟩) hS (fun q _ h => hFc q h) hFc (fun r9 u9 t H1 locs ht hvm hw hB hz1 hk1 hS => ?_)
        obtain ⟨hw1, hw2⟩ := hw
        have hw2 := hw2.symm
        subst hw1 hw2
        obtain ⟨hP1, hK1, hD1⟩ := hB
        rw [ht] at hP1
        obtain ⟨hP, hD⟩ := jA_F0 hP hD hk1 hFc hP1 hD1
        clear hPc hDc hKc hFc hz1 hk1 hP1 hK1 hD1 ht hvm
        generalize H1 = H at hP hS ⊢
        refine jn_b (D := (dC, dI)) (cl := vwCl) (ws := (wA cI aO fO u)) (A := A) (H0 := s.heap) (nL := 7) 65 (if (bI (f_X3_hasCarry u)) = (0 : Int32) then (if (a1 >>> ((4 : Int32) &&& 31)) = (9 : Int32) then (if (a1 &&& (15 : Int32)) ≤ (9 : Int32) then false else true : Bool) else false : Bool) else true : Bool) [(0, .ref aO), (1, .int a1), (2, .int (a1 &&& (15 : Int32))), (3, .int (a1 >>> ((4 : Int32) &&& 31))), (4, .int (bI (if (9 : Int32) < (a1 &&& (15 : Int32)) then true else (if (bI (f_X3_hasHalf u)) = (0 : Int32) then false else true : Bool) : Bool)))] [] (fun H locs ls hP hS hl => ?_) (fun hJ13 => ?_)
        · skip
          exact hJ2 (if (bI (f_X3_hasCarry u)) = (0 : Int32) then (if (a1 >>> ((4 : Int32) &&& 31)) = (9 : Int32) then (if (a1 &&& (15 : Int32)) ≤ (9 : Int32) then false else true : Bool) else false : Bool) else true : Bool) _ _ _ (by simp only [if_neg c12]) hP hS (lv_sub hl [0, 1, 2, 3, 4] rfl)
        · skip
          refine lv_if_ne (tgt := 60) hx hb dX0_toDecimal_45 (by decide) (fun c14 => ?_) (fun c14 => ?_)
          · skip
            refine lv_iconst (v := 1) hx hb dX0_toDecimal_60 (by decide) ?_
            refine lv_goto (tgt := 65) hx hb dX0_toDecimal_61 (by decide) ?_
            exact hJ13 true _ _ _ (by simp only [if_neg c14]) hP hS (lv_sub hl [1, 2, 3, 4, 0] rfl)
          · skip
            refine lv_iload_n hx hb dX0_toDecimal_48 rfl (lv_at hl 4 rfl) ?_
            refine lv_bipush (v := 9) hx hb dX0_toDecimal_49 (by decide) ?_
            refine jn_b (D := (dC, dI)) (cl := vwCl) (ws := (wA cI aO fO u)) (A := A) (H0 := s.heap) (nL := 7) 65 (if (a1 >>> ((4 : Int32) &&& 31)) = (9 : Int32) then (if (a1 &&& (15 : Int32)) ≤ (9 : Int32) then false else true : Bool) else false : Bool) [(0, .ref aO), (1, .int a1), (2, .int (a1 &&& (15 : Int32))), (3, .int (a1 >>> ((4 : Int32) &&& 31))), (4, .int (bI (if (9 : Int32) < (a1 &&& (15 : Int32)) then true else (if (bI (f_X3_hasHalf u)) = (0 : Int32) then false else true : Bool) : Bool)))] [] (fun H locs ls hP hS hl => ?_) (fun hJ15 => ?_)
            · skip
              exact hJ13 (if (a1 >>> ((4 : Int32) &&& 31)) = (9 : Int32) then (if (a1 &&& (15 : Int32)) ≤ (9 : Int32) then false else true : Bool) else false : Bool) _ _ _ (by simp only [if_pos c14]) hP hS (lv_sub hl [0, 1, 2, 3, 4] rfl)
            · skip
              refine lv_icmp_ne (tgt := 64) hx hb dX0_toDecimal_51 (by decide) (fun c16 => ?_) (fun c16 => ?_)
              · skip
                refine lv_iconst (v := 0) hx hb dX0_toDecimal_64 (by decide) ?_
                exact hJ15 false _ _ _ (by simp only [if_neg c16]) hP hS (lv_sub hl [1, 2, 3, 4, 0] rfl)
              · skip
                refine lv_iload_n hx hb dX0_toDecimal_54 rfl (lv_at hl 3 rfl) ?_
                refine lv_bipush (v := 9) hx hb dX0_toDecimal_55 (by decide) ?_
                refine jn_b (D := (dC, dI)) (cl := vwCl) (ws := (wA cI aO fO u)) (A := A) (H0 := s.heap) (nL := 7) 65 (if (a1 &&& (15 : Int32)) ≤ (9 : Int32) then false else true : Bool) [(0, .ref aO), (1, .int a1), (2, .int (a1 &&& (15 : Int32))), (3, .int (a1 >>> ((4 : Int32) &&& 31))), (4, .int (bI (if (9 : Int32) < (a1 &&& (15 : Int32)) then true else (if (bI (f_X3_hasHalf u)) = (0 : Int32) then false else true : Bool) : Bool)))] [] (fun H locs ls hP hS hl => ?_) (fun hJ17 => ?_)
                · skip
                  exact hJ15 (if (a1 &&& (15 : Int32)) ≤ (9 : Int32) then false else true : Bool) _ _ _ (by simp only [if_pos c16]) hP hS (lv_sub hl [0, 1, 2, 3, 4] rfl)
                · skip
                  refine lv_icmp_le (tgt := 64) hx hb dX0_toDecimal_57 (by decide) (fun c18 => ?_) (fun c18 => ?_)
                  · skip
                    refine lv_iconst (v := 0) hx hb dX0_toDecimal_64 (by decide) ?_
                    exact hJ17 false _ _ _ (by simp only [if_pos c18]) hP hS (lv_sub hl [1, 2, 3, 4, 0] rfl)
                  · skip
                    refine lv_iconst (v := 1) hx hb dX0_toDecimal_60 (by decide) ?_
                    refine lv_goto (tgt := 65) hx hb dX0_toDecimal_61 (by decide) ?_
                    exact hJ17 true _ _ _ (by simp only [if_neg c18]) hP hS (lv_sub hl [1, 2, 3, 4, 0] rfl)
  · skip
    refine lv_icmp_gt (tgt := 25) hx hb dX0_toDecimal_12 (by decide) (fun c19 => ?_) (fun c19 => ?_)
    · skip
      refine lv_iconst (v := 1) hx hb dX0_toDecimal_25 (by decide) ?_
      refine lv_goto (tgt := 30) hx hb dX0_toDecimal_26 (by decide) ?_
      exact hJ1 true _ _ _ (by simp only [if_pos c19]) hP hS (lv_sub hl [2, 3, 1, 0] rfl)
    · skip
      refine lv_aload_n hx hb dX0_toDecimal_15 rfl (lv_at hl 2 rfl) ?_
      refine va_get (D := (dC, dI)) (ci := 0) (v := .ref fO) (C := RX0) (T := TX0) (N := 1) hx hb hts iX0_toDecimal_X0 hown hK hP 0 rfl rfl 0 (by decide) (hts _ qX0_toDecimal_0) (fun _ h9 => h9) rfl dX0_toDecimal_16 ?_
      obtain ⟨hPc, hDc, hFc⟩ := xA_F hP hD hS hA
      have hKc := hK.sub (tys' := [(cI, .int)]) [0] rfl
      refine va_calli (va_runV (As := []) (rest := []) ⟨hx, hb, hml, hown, hts⟩ (k_X3_hasHalf l dC dI cI fO H.size u) (cwV 0 hts gX0_toDecimal_X3_hasHalf rfl rfl rfl (by decide +kernel) ⟨Nat.le_of_ble_eq_true rfl, Nat.le_of_ble_eq_true rfl⟩) ⟨fun a U g mk q => by obtain ⟨q0, q1, qP, qK, qD⟩ := q; exact ⟨q0, q1, qP, va_K.moved (u := U) (U := U.calling g mk a) (Vm.Alike.refl U.vm) qK, qD⟩, va_recv hKc hPc (ci := 3) (q0 := 0) rfl rfl, fun U hU hW => ⟨rfl, by rw [hU], by rw [hU]; exact hPc, va_K.moved hW.alike hKc, hDc.weaken (fun _ _ _ _ => trivial)⟩⟩ rfl rfl hl.1 rfl (lv_room (Nat.le_of_ble_eq_true rfl)) dX0_toDecimal_19 ⟨Nat.le_of_ble_eq_true rfl, Nat.le_of_ble_eq_true rfl⟩) hS (fun q _ h => hFc q h) hFc (fun r9 u9 t H1 locs ht hvm hw hB hz1 hk1 hS => ?_)
      obtain ⟨hw1, hw2⟩ := hw
      have hw2 := hw2.symm
      subst hw1 hw2
      obtain ⟨hP1, hK1, hD1⟩ := hB
      rw [ht] at hP1
      obtain ⟨hP, hD⟩ := jA_F0 hP hD hk1 hFc hP1 hD1
      clear hPc hDc hKc hFc hz1 hk1 hP1 hK1 hD1 ht hvm
      generalize H1 = H at hP hS ⊢
      refine jn_b (D := (dC, dI)) (cl := vwCl) (ws := (wA cI aO fO u)) (A := A) (H0 := s.heap) (nL := 7) 30 (if (bI (f_X3_hasHalf u)) = (0 : Int32) then false else true : Bool) [(0, .ref aO), (1, .int a1), (2, .int (a1 &&& (15 : Int32))), (3, .int (a1 >>> ((4 : Int32) &&& 31)))] [] (fun H locs ls hP hS hl => ?_) (fun hJ20 => ?_)
      · skip
        exact hJ1 (if (bI (f_X3_hasHalf u)) = (0 : Int32) then false else true : Bool) _ _ _ (by simp only [if_neg c19]) hP hS (lv_sub hl [0, 1, 2, 3] rfl)
      · skip
        refine lv_if_eq (tgt := 29) hx hb dX0_toDecimal_22 (by decide) (fun c21 => ?_) (fun c21 => ?_)
        · skip
          refine lv_iconst (v := 0) hx hb dX0_toDecimal_29 (by decide) ?_
          exact hJ20 false _ _ _ (by simp only [if_pos c21]) hP hS (lv_sub hl [2, 3, 1, 0] rfl)
        · skip
          refine lv_iconst (v := 1) hx hb dX0_toDecimal_25 (by decide) ?_
          refine lv_goto (tgt := 30) hx hb dX0_toDecimal_26 (by decide) ?_
          exact hJ20 true _ _ _ (by simp only [if_neg c21]) hP hS (lv_sub hl [2, 3, 1, 0] rfl)

def f_X0_adjust (u : FS) (a1 : Int32) (a2 : Int32) : Int32 × FS := 
  if a1 = 0 then ((f_X0_turnLeft u a2 (a2 >>> ((7 : Int32) &&& 31))).1, (f_X0_turnLeft u a2 (a2 >>> ((7 : Int32) &&& 31))).2)
  else 
    if a1 = 1 then ((f_X0_turnRight u a2 (a2 &&& (1 : Int32))).1, (f_X0_turnRight u a2 (a2 &&& (1 : Int32))).2)
    else 
      if a1 = 2 then ((f_X0_turnLeft u a2 (f_X3_carryBit u)).1, (f_X0_turnLeft u a2 (f_X3_carryBit u)).2)
      else 
        if a1 = 3 then ((f_X0_turnRight u a2 (f_X3_carryBit u)).1, (f_X0_turnRight u a2 (f_X3_carryBit u)).2)
        else 
          if a1 = 4 then ((f_X0_toDecimal u a2).1, (f_X0_toDecimal u a2).2)
          else 
            if a1 = 5 then ((a2 ^^^ (255 : Int32)), u)
            else 
              if a1 = 6 then (a2, (f_X3_setCarry u true))
              else (a2, (f_X3_setCarry u (if (bI (f_X3_hasCarry u)) = (0 : Int32) then true else false : Bool)))
theorem qX0_adjust_0 : Cond.fieldLink RX0 9 "DiskMachine$Arithmetic" "flags" "LDiskMachine$Flags;" ∈ wsX0_adjust := by decide +kernel
theorem iX0_adjust_X0 : ∀ w ∈ wsX00, w ∈ wsX0_adjust := by decide +kernel
set_option maxHeartbeats 4000000 in
set_option maxRecDepth 100000 in
theorem k_X0_adjust (l : Launch) (dC : Nat → ClassId) (dI : Nat → Nat → Nat) (cI : ClassId) (aO fO : Nat) (sz : Nat) (u : FS) (a1 : Int32) (a2 : Int32) : Met l yX0_adjust wsX0_adjust ({ frames := 3, cells := 0, slots := 0, locals := 67 }) (va_Pc [.ref aO, .int a1, .int a2] (wB dC dI [(cI, .int)] sz (wA cI aO fO u))) (va_Qi (fun (r : Int32) (u' : FS) => r = (f_X0_adjust u a1 a2).1 ∧ u' = (f_X0_adjust u a1 a2).2) (fun u' => wE dC dI [(cI, .int)] (va_A (wA cI aO fO u) sz) (wA cI aO fO u')) (va_A (wA cI aO fO u) sz)) 0 0 (va_A (wA cI aO fO u) sz) := by
  refine Met.ofW (cc := cX0_adjust) (maxL := 3) (ret := (some .int)) (by decide) rfl ?_
  intro p e s m args below meth c s₁ B hml hv
  obtain ⟨rfl, hsz, hP, hK, hD0⟩ := hv
  have hx := B.exec
  have hb := B.bytes
  have hr := B.returns
  have hts := atoms_spec (ws := wsX0_adjust) B.pre
  have hown : s.vm.findClass RX0 = some m.cls := findClass_of_methodNamed B.named
  have hlocks := B.notSynchronized
  subst hsz
  have hD := hD0.self (sz := s.heap.size)
  generalize hAe : va_A (wA cI aO fO u) s.heap.size = A at hD ⊢
  have hA : ∀ q : Nat, s.heap.size ≤ q → A q := fun q h => by rw [← hAe]; exact Or.inr h
  have hS : va_S A s.heap s.heap [] := va_S.rf
  have hP : va_P (dC, dI) vwCl (wA cI aO fO u) s.heap := hP
  clear hAe hD0
  have hl := lv_entry ([.ref aO, .int a1, .int a2]) (n := 3) (Nat.le_of_ble_eq_true rfl)
  rw [lg_entry_eq]
  generalize (lg_sl ([.ref aO, .int a1, .int a2]) ++ List.replicate (3 - (lg_sl ([.ref aO, .int a1, .int a2])).length) Slot.unset).toArray = ls at hl ⊢
  have hl : lv_has ls 3 [(0, .ref aO), (1, .int a1), (2, .int a2)] := hl
  refine jn_H hP hS (fun H locs hP hS => ?_)
  refine lv_iload_n hx hb dX0_adjust_0 rfl (lv_at hl 1 rfl) ?_
  by_cases c1 : a1 = 0
  · refine tb_in (k := 0) (off := 43) (tgt := 44) hx hb dX0_adjust_1 c1 (by decide) (by decide) (by decide) (by decide) ?_
    refine lv_aload_n hx hb dX0_adjust_44 rfl (lv_at hl 0 rfl) ?_
    refine lv_iload_n hx hb dX0_adjust_45 rfl (lv_at hl 2 rfl) ?_
    refine lv_iload_n hx hb dX0_adjust_46 rfl (lv_at hl 2 rfl) ?_
    refine lv_bipush (v := 7) hx hb dX0_adjust_47 (by decide) ?_
    refine lv_ishr hx hb dX0_adjust_49 ?_
    obtain ⟨hPc, hDc, hFc⟩ := xA_A hP hD hS hA
    have hKc := hK.sub (tys' := [(cI, .int)]) [0] rfl
    refine va_calli (va_runV (As := [.int a2, .int (a2 >>> ((7 : Int32) &&& 31))]) (rest := []) ⟨hx, hb, hml, hown, hts⟩ (k_X0_turnLeft l dC dI cI aO fO H.size u a2 (a2 >>> ((7 : Int32) &&& 31))) (cwV 2 hts gX0_adjust_X0_turnLeft rfl rfl rfl (by decide +kernel) ⟨Nat.le_of_ble_eq_true rfl, Nat.le_of_ble_eq_true rfl⟩) ⟨fun a U g mk q => by obtain ⟨q0, q1, qP, qK, qD⟩ := q; exact ⟨q0, q1, qP, va_K.moved (u := U) (U := U.calling g mk a) (Vm.Alike.refl U.vm) qK, qD⟩, va_recv hKc hPc (ci := 0) (q0 := 0) rfl rfl, fun U hU hW => ⟨rfl, by rw [hU], by rw [hU]; exact hPc, va_K.moved hW.alike hKc, hDc.weaken (fun _ _ _ _ => trivial)⟩⟩ rfl rfl hl.1 rfl (lv_room (Nat.le_of_ble_eq_true rfl)) dX0_adjust_50 ⟨Nat.le_of_ble_eq_true rfl, Nat.le_of_ble_eq_true rfl⟩) hS (fun q _ h => hFc q h) hFc (fun r9 u9 t H1 locs ht hvm hw hB hz1 hk1 hS => ?_)
    obtain ⟨rfl, rfl⟩ := hw
    obtain ⟨hP1, hK1, hD1⟩ := hB
    rw [ht] at hP1
    obtain ⟨hP, hD⟩ := jA_A hP hD hk1 hFc hP1 hD1
    clear hPc hDc hKc hFc hz1 hk1 hP1 hK1 hD1 ht hvm
    generalize H1 = H at hP hS ⊢
    exact W.iret (v := (f_X0_turnLeft u a2 (a2 >>> ((7 : Int32) &&& 31))).1) hx hb hr (fun t ht hW => ⟨⟨(f_X0_turnLeft u a2 (a2 >>> ((7 : Int32) &&& 31))).1, (f_X0_turnLeft u a2 (a2 >>> ((7 : Int32) &&& 31))).2, rfl, ⟨(by simp only [f_X0_adjust, if_pos c1]), (by simp only [f_X0_adjust, if_pos c1])⟩, by rw [ht]; exact hP, va_K.moved hW.alike hK, hD⟩, hS.F ht⟩) hS.2.2 dX0_adjust_53
  · skip
    by_cases c2 : a1 = 1
    · refine tb_in (k := 1) (off := 53) (tgt := 54) hx hb dX0_adjust_1 c2 (by decide) (by decide) (by decide) (by decide) ?_
      refine lv_aload_n hx hb dX0_adjust_54 rfl (lv_at hl 0 rfl) ?_
      refine lv_iload_n hx hb dX0_adjust_55 rfl (lv_at hl 2 rfl) ?_
      refine lv_iload_n hx hb dX0_adjust_56 rfl (lv_at hl 2 rfl) ?_
      refine lv_iconst (v := 1) hx hb dX0_adjust_57 (by decide) ?_
      refine lv_iand hx hb dX0_adjust_58 ?_
      obtain ⟨hPc, hDc, hFc⟩ := xA_A hP hD hS hA
      have hKc := hK.sub (tys' := [(cI, .int)]) [0] rfl
      refine va_calli (va_runV (As := [.int a2, .int (a2 &&& (1 : Int32))]) (rest := []) ⟨hx, hb, hml, hown, hts⟩ (k_X0_turnRight l dC dI cI aO fO H.size u a2 (a2 &&& (1 : Int32))) (cwV 2 hts gX0_adjust_X0_turnRight rfl rfl rfl (by decide +kernel) ⟨Nat.le_of_ble_eq_true rfl, Nat.le_of_ble_eq_true rfl⟩) ⟨fun a U g mk q => by obtain ⟨q0, q1, qP, qK, qD⟩ := q; exact ⟨q0, q1, qP, va_K.moved (u := U) (U := U.calling g mk a) (Vm.Alike.refl U.vm) qK, qD⟩, va_recv hKc hPc (ci := 0) (q0 := 0) rfl rfl, fun U hU hW => ⟨rfl, by rw [hU], by rw [hU]; exact hPc, va_K.moved hW.alike hKc, hDc.weaken (fun _ _ _ _ => trivial)⟩⟩ rfl rfl hl.1 rfl (lv_room (Nat.le_of_ble_eq_true rfl)) dX0_adjust_59 ⟨Nat.le_of_ble_eq_true rfl, Nat.le_of_ble_eq_true rfl⟩) hS (fun q _ h => hFc q h) hFc (fun r9 u9 t H1 locs ht hvm hw hB hz1 hk1 hS => ?_)
      obtain ⟨rfl, rfl⟩ := hw
      obtain ⟨hP1, hK1, hD1⟩ := hB
      rw [ht] at hP1
      obtain ⟨hP, hD⟩ := jA_A hP hD hk1 hFc hP1 hD1
      clear hPc hDc hKc hFc hz1 hk1 hP1 hK1 hD1 ht hvm
      generalize H1 = H at hP hS ⊢
      exact W.iret (v := (f_X0_turnRight u a2 (a2 &&& (1 : Int32))).1) hx hb hr (fun t ht hW => ⟨⟨(f_X0_turnRight u a2 (a2 &&& (1 : Int32))).1, (f_X0_turnRight u a2 (a2 &&& (1 : Int32))).2, rfl, ⟨(by simp only [f_X0_adjust, if_neg c1, if_pos c2]), (by simp only [f_X0_adjust, if_neg c1, if_pos c2])⟩, by rw [ht]; exact hP, va_K.moved hW.alike hK, hD⟩, hS.F ht⟩) hS.2.2 dX0_adjust_62
    · skip
      by_cases c3 : a1 = 2
      · refine tb_in (k := 2) (off := 62) (tgt := 63) hx hb dX0_adjust_1 c3 (by decide) (by decide) (by decide) (by decide) ?_
        refine lv_aload_n hx hb dX0_adjust_63 rfl (lv_at hl 0 rfl) ?_
        refine lv_iload_n hx hb dX0_adjust_64 rfl (lv_at hl 2 rfl) ?_
        refine lv_aload_n hx hb dX0_adjust_65 rfl (lv_at hl 0 rfl) ?_
        refine va_get (D := (dC, dI)) (ci := 0) (v := .ref fO) (C := RX0) (T := TX0) (N := 1) hx hb hts iX0_adjust_X0 hown hK hP 0 rfl rfl 0 (by decide) (hts _ qX0_adjust_0) (fun _ h9 => h9) rfl dX0_adjust_66 ?_
        obtain ⟨hPc, hDc, hFc⟩ := xA_F hP hD hS hA
        have hKc := hK.sub (tys' := [(cI, .int)]) [0] rfl
        refine va_calli (va_runV (As := []) (rest := [.int a2, .ref aO]) ⟨hx, hb, hml, hown, hts⟩ (k_X3_carryBit l dC dI cI fO H.size u) (cwV 0 hts gX0_adjust_X3_carryBit rfl rfl rfl (by decide +kernel) ⟨Nat.le_of_ble_eq_true rfl, Nat.le_of_ble_eq_true rfl⟩) ⟨fun a U g mk q => by obtain ⟨q0, q1, qP, qK, qD⟩ := q; exact ⟨q0, q1, qP, va_K.moved (u := U) (U := U.calling g mk a) (Vm.Alike.refl U.vm) qK, qD⟩, va_recv hKc hPc (ci := 3) (q0 := 0) rfl rfl, fun U hU hW => ⟨rfl, by rw [hU], by rw [hU]; exact hPc, va_K.moved hW.alike hKc, hDc.weaken (fun _ _ _ _ => trivial)⟩⟩ rfl rfl hl.1 rfl (lv_room (Nat.le_of_ble_eq_true rfl)) dX0_adjust_69 ⟨Nat.le_of_ble_eq_true rfl, Nat.le_of_ble_eq_true rfl⟩) hS (fun q _ h => hFc q h) hFc (fun r9 u9 t H1 locs ht hvm hw hB hz1 hk1 hS => ?_)
        obtain ⟨hw1, hw2⟩ := hw
        have hw2 := hw2.symm
        subst hw1 hw2
        obtain ⟨hP1, hK1, hD1⟩ := hB
        rw [ht] at hP1
        obtain ⟨hP, hD⟩ := jA_F0 hP hD hk1 hFc hP1 hD1
        clear hPc hDc hKc hFc hz1 hk1 hP1 hK1 hD1 ht hvm
        generalize H1 = H at hP hS ⊢
        obtain ⟨hPc, hDc, hFc⟩ := xA_A hP hD hS hA
        have hKc := hK.sub (tys' := [(cI, .int)]) [0] rfl
        refine va_calli (va_runV (As := [.int a2, .int (f_X3_carryBit u)]) (rest := []) ⟨hx, hb, hml, hown, hts⟩ (k_X0_turnLeft l dC dI cI aO fO H.size u a2 (f_X3_carryBit u)) (cwV 2 hts gX0_adjust_X0_turnLeft rfl rfl rfl (by decide +kernel) ⟨Nat.le_of_ble_eq_true rfl, Nat.le_of_ble_eq_true rfl⟩) ⟨fun a U g mk q => by obtain ⟨q0, q1, qP, qK, qD⟩ := q; exact ⟨q0, q1, qP, va_K.moved (u := U) (U := U.calling g mk a) (Vm.Alike.refl U.vm) qK, qD⟩, va_recv hKc hPc (ci := 0) (q0 := 0) rfl rfl, fun U hU hW => ⟨rfl, by rw [hU], by rw [hU]; exact hPc, va_K.moved hW.alike hKc, hDc.weaken (fun _ _ _ _ => trivial)⟩⟩ rfl rfl hl.1 rfl (lv_room (Nat.le_of_ble_eq_true rfl)) dX0_adjust_72 ⟨Nat.le_of_ble_eq_true rfl, Nat.le_of_ble_eq_true rfl⟩) hS (fun q _ h => hFc q h) hFc (fun r9 u9 t H1 locs ht hvm hw hB hz1 hk1 hS => ?_)
        obtain ⟨rfl, rfl⟩ := hw
        obtain ⟨hP1, hK1, hD1⟩ := hB
        rw [ht] at hP1
        obtain ⟨hP, hD⟩ := jA_A hP hD hk1 hFc hP1 hD1
        clear hPc hDc hKc hFc hz1 hk1 hP1 hK1 hD1 ht hvm
        generalize H1 = H at hP hS ⊢
        exact W.iret (v := (f_X0_turnLeft u a2 (f_X3_carryBit u)).1) hx hb hr (fun t ht hW => ⟨⟨(f_X0_turnLeft u a2 (f_X3_carryBit u)).1, (f_X0_turnLeft u a2 (f_X3_carryBit u)).2, rfl, ⟨(by simp only [f_X0_adjust, if_neg c1, if_neg c2, if_pos c3]), (by simp only [f_X0_adjust, if_neg c1, if_neg c2, if_pos c3])⟩, by rw [ht]; exact hP, va_K.moved hW.alike hK, hD⟩, hS.F ht⟩) hS.2.2 dX0_adjust_75
      · skip
        by_cases c4 : a1 = 3
        · refine tb_in (k := 3) (off := 75) (tgt := 76) hx hb dX0_adjust_1 c4 (by decide) (by decide) (by decide) (by decide) ?_
          refine lv_aload_n hx hb dX0_adjust_76 rfl (lv_at hl 0 rfl) ?_
          refine lv_iload_n hx hb dX0_adjust_77 rfl (lv_at hl 2 rfl) ?_
          refine lv_aload_n hx hb dX0_adjust_78 rfl (lv_at hl 0 rfl) ?_
          refine va_get (D := (dC, dI)) (ci := 0) (v := .ref fO) (C := RX0) (T := TX0) (N := 1) hx hb hts iX0_adjust_X0 hown hK hP 0 rfl rfl 0 (by decide) (hts _ qX0_adjust_0) (fun _ h9 => h9) rfl dX0_adjust_79 ?_
          obtain ⟨hPc, hDc, hFc⟩ := xA_F hP hD hS hA
          have hKc := hK.sub (tys' := [(cI, .int)]) [0] rfl
          refine va_calli (va_runV (As := []) (rest := [.int a2, .ref aO]) ⟨hx, hb, hml, hown, hts⟩ (k_X3_carryBit l dC dI cI fO H.size u) (cwV 0 hts gX0_adjust_X3_carryBit rfl rfl rfl (by decide +kernel) ⟨Nat.le_of_ble_eq_true rfl, Nat.le_of_ble_eq_true rfl⟩) ⟨fun a U g mk q => by obtain ⟨q0, q1, qP, qK, qD⟩ := q; exact ⟨q0, q1, qP, va_K.moved (u := U) (U := U.calling g mk a) (Vm.Alike.refl U.vm) qK, qD⟩, va_recv hKc hPc (ci := 3) (q0 := 0) rfl rfl, fun U hU hW => ⟨rfl, by rw [hU], by rw [hU]; exact hPc, va_K.moved hW.alike hKc, hDc.weaken (fun _ _ _ _ => trivial)⟩⟩ rfl rfl hl.1 rfl (lv_room (Nat.le_of_ble_eq_true rfl)) dX0_adjust_82 ⟨Nat.le_of_ble_eq_true rfl, Nat.le_of_ble_eq_true rfl⟩) hS (fun q _ h => hFc q h) hFc (fun r9 u9 t H1 locs ht hvm hw hB hz1 hk1 hS => ?_)
          obtain ⟨hw1, hw2⟩ := hw
          have hw2 := hw2.symm
          subst hw1 hw2
          obtain ⟨hP1, hK1, hD1⟩ := hB
          rw [ht] at hP1
          obtain ⟨hP, hD⟩ := jA_F0 hP hD hk1 hFc hP1 hD1
          clear hPc hDc hKc hFc hz1 hk1 hP1 hK1 hD1 ht hvm
          generalize H1 = H at hP hS ⊢
          obtain ⟨hPc, hDc, hFc⟩ := xA_A hP hD hS hA
          have hKc := hK.sub (tys' := [(cI, .int)]) [0] rfl
          refine va_calli (va_runV (As := [.int a2, .int (f_X3_carryBit u)]) (rest := []) ⟨hx, hb, hml, hown, hts⟩ (k_X0_turnRight l dC dI cI aO fO H.size u a2 (f_X3_carryBit u)) (cwV 2 hts gX0_adjust_X0_turnRight rfl rfl rfl (by decide +kernel) ⟨Nat.le_of_ble_eq_true rfl, Nat.le_of_ble_eq_true rfl⟩) ⟨fun a U g mk q => by obtain ⟨q0, q1, qP, qK, qD⟩ := q; exact ⟨q0, q1, qP, va_K.moved (u := U) (U := U.calling g mk a) (Vm.Alike.refl U.vm) qK, qD⟩, va_recv hKc hPc (ci := 0) (q0 := 0) rfl rfl, fun U hU hW => ⟨rfl, by rw [hU], by rw [hU]; exact hPc, va_K.moved hW.alike hKc, hDc.weaken (fun _ _ _ _ => trivial)⟩⟩ rfl rfl hl.1 rfl (lv_room (Nat.le_of_ble_eq_true rfl)) dX0_adjust_85 ⟨Nat.le_of_ble_eq_true rfl, Nat.le_of_ble_eq_true rfl⟩) hS (fun q _ h => hFc q h) hFc (fun r9 u9 t H1 locs ht hvm hw hB hz1 hk1 hS => ?_)
          obtain ⟨rfl, rfl⟩ := hw
          obtain ⟨hP1, hK1, hD1⟩ := hB
          rw [ht] at hP1
          obtain ⟨hP, hD⟩ := jA_A hP hD hk1 hFc hP1 hD1
          clear hPc hDc hKc hFc hz1 hk1 hP1 hK1 hD1 ht hvm
          generalize H1 = H at hP hS ⊢
          exact W.iret (v := (f_X0_turnRight u a2 (f_X3_carryBit u)).1) hx hb hr (fun t ht hW => ⟨⟨(f_X0_turnRight u a2 (f_X3_carryBit u)).1, (f_X0_turnRight u a2 (f_X3_carryBit u)).2, rfl, ⟨(by simp only [f_X0_adjust, if_neg c1, if_neg c2, if_neg c3, if_pos c4]), (by simp only [f_X0_adjust, if_neg c1, if_neg c2, if_neg c3, if_pos c4])⟩, by rw [ht]; exact hP, va_K.moved hW.alike hK, hD⟩, hS.F ht⟩) hS.2.2 dX0_adjust_88
        · skip
          by_cases c5 : a1 = 4
          · refine tb_in (k := 4) (off := 88) (tgt := 89) hx hb dX0_adjust_1 c5 (by decide) (by decide) (by decide) (by decide) ?_
            refine lv_aload_n hx hb dX0_adjust_89 rfl (lv_at hl 0 rfl) ?_
            refine lv_iload_n hx hb dX0_adjust_90 rfl (lv_at hl 2 rfl) ?_
            obtain ⟨hPc, hDc, hFc⟩ := xA_A hP hD hS hA
            have hKc := hK.sub (tys' := [(cI, .int)]) [0] rfl
            refine va_calli (va_runV (As := [.int a2]) (rest := []) ⟨hx, hb, hml, hown, hts⟩ (k_X0_toDecimal l dC dI cI aO fO H.size u a2) (cwV 1 hts gX0_adjust_X0_toDecimal rfl rfl rfl (by decide +kernel) ⟨Nat.le_of_ble_eq_true rfl, Nat.le_of_ble_eq_true rfl⟩) ⟨fun a U g mk q => by obtain ⟨q0, q1, qP, qK, qD⟩ := q; exact ⟨q0, q1, qP, va_K.moved (u := U) (U := U.calling g mk a) (Vm.Alike.refl U.vm) qK, qD⟩, va_recv hKc hPc (ci := 0) (q0 := 0) rfl rfl, fun U hU hW => ⟨rfl, by rw [hU], by rw [hU]; exact hPc, va_K.moved hW.alike hKc, hDc.weaken (fun _ _ _ _ => trivial)⟩⟩ rfl rfl hl.1 rfl (lv_room (Nat.le_of_ble_eq_true rfl)) dX0_adjust_91 ⟨Nat.le_of_ble_eq_true rfl, Nat.le_of_ble_eq_true rfl⟩) hS (fun q _ h => hFc q h) hFc (fun r9 u9 t H1 locs ht hvm hw hB hz1 hk1 hS => ?_)
            obtain ⟨rfl, rfl⟩ := hw
            obtain ⟨hP1, hK1, hD1⟩ := hB
            rw [ht] at hP1
            obtain ⟨hP, hD⟩ := jA_A hP hD hk1 hFc hP1 hD1
            clear hPc hDc hKc hFc hz1 hk1 hP1 hK1 hD1 ht hvm
            generalize H1 = H at hP hS ⊢
            exact W.iret (v := (f_X0_toDecimal u a2).1) hx hb hr (fun t ht hW => ⟨⟨(f_X0_toDecimal u a2).1, (f_X0_toDecimal u a2).2, rfl, ⟨(by simp only [f_X0_adjust, if_neg c1, if_neg c2, if_neg c3, if_neg c4, if_pos c5]), (by simp only [f_X0_adjust, if_neg c1, if_neg c2, if_neg c3, if_neg c4, if_pos c5])⟩, by rw [ht]; exact hP, va_K.moved hW.alike hK, hD⟩, hS.F ht⟩) hS.2.2 dX0_adjust_94
          · skip
            by_cases c6 : a1 = 5
            · refine tb_in (k := 5) (off := 94) (tgt := 95) hx hb dX0_adjust_1 c6 (by decide) (by decide) (by decide) (by decide) ?_
              refine lv_iload_n hx hb dX0_adjust_95 rfl (lv_at hl 2 rfl) ?_
              refine lv_sipush (v := 255) hx hb dX0_adjust_96 (by decide) ?_
              refine lv_ixor hx hb dX0_adjust_99 ?_
              exact W.iret (v := (a2 ^^^ (255 : Int32))) hx hb hr (fun t ht hW => ⟨⟨(a2 ^^^ (255 : Int32)), u, rfl, ⟨(by simp only [f_X0_adjust, if_neg c1, if_neg c2, if_neg c3, if_neg c4, if_neg c5, if_pos c6]), (by simp only [f_X0_adjust, if_neg c1, if_neg c2, if_neg c3, if_neg c4, if_neg c5, if_pos c6])⟩, by rw [ht]; exact hP, va_K.moved hW.alike hK, hD⟩, hS.F ht⟩) hS.2.2 dX0_adjust_100
            · skip
              by_cases c7 : a1 = 6
              · refine tb_in (k := 6) (off := 100) (tgt := 101) hx hb dX0_adjust_1 c7 (by decide) (by decide) (by decide) (by decide) ?_
                refine lv_aload_n hx hb dX0_adjust_101 rfl (lv_at hl 0 rfl) ?_
                refine va_get (D := (dC, dI)) (ci := 0) (v := .ref fO) (C := RX0) (T := TX0) (N := 1) hx hb hts iX0_adjust_X0 hown hK hP 0 rfl rfl 0 (by decide) (hts _ qX0_adjust_0) (fun _ h9 => h9) rfl dX0_adjust_102 ?_
                refine lv_iconst (v := 1) hx hb dX0_adjust_105 (by decide) ?_
                obtain ⟨hPc, hDc, hFc⟩ := xA_F hP hD hS hA
                have hKc := hK.sub (tys' := [(cI, .int)]) [0] rfl
                refine va_callv (va_runV (As := [.int (bI true)]) (rest := []) ⟨hx, hb, hml, hown, hts⟩ (k_X3_setCarry l dC dI cI fO H.size u true) (cwV 1 hts gX0_adjust_X3_setCarry rfl rfl rfl (by decide +kernel) ⟨Nat.le_of_ble_eq_true rfl, Nat.le_of_ble_eq_true rfl⟩) ⟨fun a U g mk q => by obtain ⟨q0, q1, qP, qK, qD⟩ := q; exact ⟨q0, q1, qP, va_K.moved (u := U) (U := U.calling g mk a) (Vm.Alike.refl U.vm) qK, qD⟩, va_recv hKc hPc (ci := 3) (q0 := 0) rfl rfl, fun U hU hW => ⟨rfl, by rw [hU], by rw [hU]; exact hPc, va_K.moved hW.alike hKc, hDc.weaken (fun _ _ _ _ => trivial)⟩⟩ rfl rfl hl.1 rfl (lv_room (Nat.le_of_ble_eq_true rfl)) dX0_adjust_106 ⟨Nat.le_of_ble_eq_true rfl, Nat.le_of_ble_eq_true rfl⟩) hS (fun q _ h => hFc q h) hFc (fun u9 t H1 locs ht hvm hw hB hz1 hk1 hS => ?_)
                subst hw
                obtain ⟨hP1, hK1, hD1⟩ := hB
                rw [ht] at hP1
                obtain ⟨hP, hD⟩ := jA_F hP hD hk1 hFc hP1 hD1
                clear hPc hDc hKc hFc hz1 hk1 hP1 hK1 hD1 ht hvm
                generalize H1 = H at hP hS ⊢
                refine lv_iload_n hx hb dX0_adjust_109 rfl (lv_at hl 2 rfl) ?_
                exact W.iret (v := a2) hx hb hr (fun t ht hW => ⟨⟨a2, (f_X3_setCarry u true), rfl, ⟨(by simp only [f_X0_adjust, if_neg c1, if_neg c2, if_neg c3, if_neg c4, if_neg c5, if_neg c6, if_pos c7]), (by simp only [f_X0_adjust, if_neg c1, if_neg c2, if_neg c3, if_neg c4, if_neg c5, if_neg c6, if_pos c7])⟩, by rw [ht]; exact hP, va_K.moved hW.alike hK, hD⟩, hS.F ht⟩) hS.2.2 dX0_adjust_110
              · skip
                refine lv_tableOut (tgt := 111) hx hb dX0_adjust_1 (by have r0 := lv_neT c1 (a := 0) (by decide); have r1 := lv_neT c2 (a := 1) (by decide); have r2 := lv_neT c3 (a := 2) (by decide); have r3 := lv_neT c4 (a := 3) (by decide); have r4 := lv_neT c5 (a := 4) (by decide); have r5 := lv_neT c6 (a := 5) (by decide); have r6 := lv_neT c7 (a := 6) (by decide); omega) (by decide) ?_
                refine lv_aload_n hx hb dX0_adjust_111 rfl (lv_at hl 0 rfl) ?_
                refine va_get (D := (dC, dI)) (ci := 0) (v := .ref fO) (C := RX0) (T := TX0) (N := 1) hx hb hts iX0_adjust_X0 hown hK hP 0 rfl rfl 0 (by decide) (hts _ qX0_adjust_0) (fun _ h9 => h9) rfl dX0_adjust_112 ?_
                refine lv_aload_n hx hb dX0_adjust_115 rfl (lv_at hl 0 rfl) ?_
                refine va_get (D := (dC, dI)) (ci := 0) (v := .ref fO) (C := RX0) (T := TX0) (N := 1) hx hb hts iX0_adjust_X0 hown hK hP 0 rfl rfl 0 (by decide) (hts _ qX0_adjust_0) (fun _ h9 => h9) rfl dX0_adjust_116 ?_
                obtain ⟨hPc, hDc, hFc⟩ := xA_F hP hD hS hA
                have hKc := hK.sub (tys' := [(cI, .int)]) [0] rfl
                refine va_calli (va_runV (As := []) (rest := [.ref fO]) ⟨hx, hb, hml, hown, hts⟩ (k_X3_hasCarry l dC dI cI fO H.size u) (cwV 0 hts gX0_adjust_X3_hasCarry rfl rfl rfl (by decide +kernel) ⟨Nat.le_of_ble_eq_true rfl, Nat.le_of_ble_eq_true rfl⟩) ⟨fun a U g mk q => by obtain ⟨q0, q1, qP, qK, qD⟩ := q; exact ⟨q0, q1, qP, va_K.moved (u := U) (U := U.calling g mk a) (Vm.Alike.refl U.vm) qK, qD⟩, va_recv hKc hPc (ci := 3) (q0 := 0) rfl rfl, fun U hU hW => ⟨rfl, by rw [hU], by rw [hU]; exact hPc, va_K.moved hW.alike hKc, hDc.weaken (fun _ _ _ _ => trivial)⟩⟩ rfl rfl hl.1 rfl (lv_room (Nat.le_of_ble_eq_true rfl)) dX0_adjust_119 ⟨Nat.le_of_ble_eq_true rfl, Nat.le_of_ble_eq_true rfl⟩) hS (fun q _ h => hFc q h) hFc (fun r9 u9 t H1 locs ht hvm hw hB hz1 hk1 hS => ?_)
                obtain ⟨hw1, hw2⟩ := hw
                have hw2 := hw2.symm
                subst hw1 hw2
                obtain ⟨hP1, hK1, hD1⟩ := hB
                rw [ht] at hP1
                obtain ⟨hP, hD⟩ := jA_F0 hP hD hk1 hFc hP1 hD1
                clear hPc hDc hKc hFc hz1 hk1 hP1 hK1 hD1 ht hvm
                generalize H1 = H at hP hS ⊢
                refine jn_b (D := (dC, dI)) (cl := vwCl) (ws := (wA cI aO fO u)) (A := A) (H0 := s.heap) (nL := 3) 130 (if (bI (f_X3_hasCarry u)) = (0 : Int32) then true else false : Bool) [(0, .ref aO), (1, .int a1), (2, .int a2)] [.ref fO] (fun H locs ls hP hS hl => ?_) (fun hJ8 => ?_)
                · skip
                  obtain ⟨hPc, hDc, hFc⟩ := xA_F hP hD hS hA
                  have hKc := hK.sub (tys' := [(cI, .int)]) [0] rfl
                  refine va_callv (va_runV (As := [.int (bI (if (bI (f_X3_hasCarry u)) = (0 : Int32) then true else false : Bool))]) (rest := []) ⟨hx, hb, hml, hown, hts⟩ (k_X3_setCarry l dC dI cI fO H.size u (if (bI (f_X3_hasCarry u)) = (0 : Int32) then true else false : Bool)) (cwV 1 hts gX0_adjust_X3_setCarry rfl rfl rfl (by decide +kernel) ⟨Nat.le_of_ble_eq_true rfl, Nat.le_of_ble_eq_true rfl⟩) ⟨fun a U g mk q => by obtain ⟨q0, q1, qP, qK, qD⟩ := q; exact ⟨q0, q1, qP, va_K.moved (u := U) (U := U.calling g mk a) (Vm.Alike.refl U.vm) qK, qD⟩, va_recv hKc hPc (ci := 3) (q0 := 0) rfl rfl, fun U hU hW => ⟨rfl, by rw [hU], by rw [hU]; exact hPc, va_K.moved hW.alike hKc, hDc.weaken (fun _ _ _ _ => trivial)⟩⟩ rfl rfl hl.1 rfl (lv_room (Nat.le_of_ble_eq_true rfl)) dX0_adjust_130 ⟨Nat.le_of_ble_eq_true rfl, Nat.le_of_ble_eq_true rfl⟩) hS (fun q _ h => hFc q h) hFc (fun u9 t H1 locs ht hvm hw hB hz1 hk1 hS => ?_)
                  subst hw
                  obtain ⟨hP1, hK1, hD1⟩ := hB
                  rw [ht] at hP1
                  obtain ⟨hP, hD⟩ := jA_F hP hD hk1 hFc hP1 hD1
                  clear hPc hDc hKc hFc hz1 hk1 hP1 hK1 hD1 ht hvm
                  generalize H1 = H at hP hS ⊢
                  refine lv_iload_n hx hb dX0_adjust_133 rfl (lv_at hl 2 rfl) ?_
                  exact W.iret (v := a2) hx hb hr (fun t ht hW => ⟨⟨a2, (f_X3_setCarry u (if (bI (f_X3_hasCarry u)) = (0 : Int32) then true else false : Bool)), rfl, ⟨(by simp only [f_X0_adjust, if_neg c1, if_neg c2, if_neg c3, if_neg c4, if_neg c5, if_neg c6, if_neg c7]), (by simp only [f_X0_adjust, if_neg c1, if_neg c2, if_neg c3, if_neg c4, if_neg c5, if_neg c6, if_neg c7])⟩, by rw [ht]; exact hP, va_K.moved hW.alike hK, hD⟩, hS.F ht⟩) hS.2.2 dX0_adjust_134
                · skip
                  refine lv_if_ne (tgt := 129) hx hb dX0_adjust_122 (by decide) (fun c9 => ?_) (fun c9 => ?_)
                  · skip
                    refine lv_iconst (v := 0) hx hb dX0_adjust_129 (by decide) ?_
                    exact hJ8 false _ _ _ (by simp only [if_neg c9]) hP hS (lv_sub hl [0, 1, 2] rfl)
                  · skip
                    refine lv_iconst (v := 1) hx hb dX0_adjust_125 (by decide) ?_
                    refine lv_goto (tgt := 130) hx hb dX0_adjust_126 (by decide) ?_
                    exact hJ8 true _ _ _ (by simp only [if_pos c9]) hP hS (lv_sub hl [0, 1, 2] rfl)
