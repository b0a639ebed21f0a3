def f_X4_setOrAddPair (u : PW) (a1 : Int32) : Int32 × PW := 
  if (a1 &&& (1 : Int32)) = (0 : Int32) then (10, (f_X4_setPair (f_X4_nextWord u).2 (a1 >>> ((1 : Int32) &&& 31)) (f_X4_nextWord u).1))
  else (10, (f_X4_setPair (sPW_F u (f_X3_setCarry (gPW_F u) (if ((f_X4_pair u 2) + (f_X4_pair u (a1 >>> ((1 : Int32) &&& 31)))) ≤ (65535 : Int32) then false else true : Bool))) 2 ((f_X4_pair u 2) + (f_X4_pair u (a1 >>> ((1 : Int32) &&& 31))))))
theorem qX4_setOrAddPair_0 : Cond.fieldLink RX4 12 "DiskMachine$Processor" "flags" "LDiskMachine$Flags;" ∈ wsX4_setOrAddPair := by decide +kernel
theorem qX4_setOrAddPair_1 : Cond.constant RX4 61 (65535) ∈ wsX4_setOrAddPair := by decide +kernel
theorem iX4_setOrAddPair_X4 : ∀ w ∈ wsX40, w ∈ wsX4_setOrAddPair := by decide +kernel
set_option maxHeartbeats 4000000 in
set_option maxRecDepth 100000 in
theorem k_X4_setOrAddPair (l : Launch) (dC : Nat → ClassId) (dI : Nat → Nat → Nat) (cI : ClassId) (pO mS mA dS dA cO iA oA kO fO aO rA : Nat) (sz : Nat) (u : PW) (a1 : Int32) (h1 : vp_in a1 8) : Met l yX4_setOrAddPair wsX4_setOrAddPair ({ frames := 2, cells := 0, slots := 0, locals := 42 }) (va_Pc [.ref pO, .int a1] (wB dC dI [(cI, .int)] sz (wP cI pO mS mA dS dA cO iA oA kO fO aO rA u))) (va_Qi (fun (r : Int32) (u' : PW) => r = (f_X4_setOrAddPair u a1).1 ∧ u' = (f_X4_setOrAddPair u a1).2) (fun u' => wE dC dI [(cI, .int)] (va_A (wP cI pO mS mA dS dA cO iA oA kO fO aO rA u) sz) (wP cI pO mS mA dS dA cO iA oA kO fO aO rA u')) (va_A (wP cI pO mS mA dS dA cO iA oA kO fO aO rA u) sz)) 0 0 (va_A (wP cI pO mS mA dS dA cO iA oA kO fO aO rA u) sz) := by
  refine Met.ofW (cc := cX4_setOrAddPair) (maxL := 4) (ret := (some .int)) (by decide) rfl ?_
  intro p e s m args below meth c s₁ B hml hv
  obtain ⟨rfl, hsz, hP, hK, hD0⟩ := hv
  have hx := B.exec
  have hb := B.bytes
  have hr := B.returns
  have hts := atoms_spec (ws := wsX4_setOrAddPair) B.pre
  have hown : s.vm.findClass RX4 = some m.cls := findClass_of_methodNamed B.named
  have hlocks := B.notSynchronized
  subst hsz
  have hD := hD0.self (sz := s.heap.size)
  generalize hAe : va_A (wP cI pO mS mA dS dA cO iA oA kO fO aO rA u) s.heap.size = A at hD ⊢
  have hA : ∀ q : Nat, s.heap.size ≤ q → A q := fun q h => by rw [← hAe]; exact Or.inr h
  have hS : va_S A s.heap s.heap [] := va_S.rf
  have hP : va_P (dC, dI) vwCl (wP cI pO mS mA dS dA cO iA oA kO fO aO rA u) s.heap := hP
  clear hAe hD0
  have hl := lv_entry ([.ref pO, .int a1]) (n := 4) (Nat.le_of_ble_eq_true rfl)
  rw [lg_entry_eq]
  generalize (lg_sl ([.ref pO, .int a1]) ++ List.replicate (4 - (lg_sl ([.ref pO, .int a1])).length) Slot.unset).toArray = ls at hl ⊢
  have hl : lv_has ls 4 [(0, .ref pO), (1, .int a1)] := hl
  refine jn_H hP hS (fun H locs hP hS => ?_)
  refine lv_iload_n hx hb dX4_setOrAddPair_0 rfl (lv_at hl 1 rfl) ?_
  refine lv_iconst (v := 1) hx hb dX4_setOrAddPair_1 (by decide) ?_
  refine lv_ishr hx hb dX4_setOrAddPair_2 ?_
  refine lv_istore_n (lv' := [(2, .int (a1 >>> ((1 : Int32) &&& 31))), (0, .ref pO), (1, .int a1)]) hx hb dX4_setOrAddPair_3 rfl hl (by decide) rfl (fun ls hl => ?_)
  refine lv_iload_n hx hb dX4_setOrAddPair_4 rfl (lv_at hl 2 rfl) ?_
  refine lv_iconst (v := 1) hx hb dX4_setOrAddPair_5 (by decide) ?_
  refine lv_iand hx hb dX4_setOrAddPair_6 ?_
  refine lv_if_ne (tgt := 22) hx hb dX4_setOrAddPair_7 (by decide) (fun c1 => ?_) (fun c1 => ?_)
  · skip
    refine lv_aload_n hx hb dX4_setOrAddPair_22 rfl (lv_at hl 1 rfl) ?_
    refine lv_iconst (v := 2) hx hb dX4_setOrAddPair_23 (by decide) ?_
    obtain ⟨hPc, hDc, hFc⟩ := xP_P hP hD hS hA
    have hKc := hK.sub (tys' := [(cI, .int)]) [0] rfl
    refine va_calli (va_runV (As := [.int 2]) (rest := []) ⟨hx, hb, hml, hown, hts⟩ (k_X4_pair l dC dI cI pO mS mA dS dA cO iA oA kO fO aO rA H.size u 2 (ix_lit (by decide))) (cwV 1 hts gX4_setOrAddPair_X4_pair rfl rfl rfl (by decide +kernel) ⟨Nat.le_of_ble_eq_true rfl, Nat.le_of_ble_eq_true rfl⟩) ⟨fun a U g mk q => by obtain ⟨q0, q1, qP, qK, qD⟩ := q; exact ⟨q0, q1, qP, va_K.moved (u := U) (U := U.calling g mk a) (Vm.Alike.refl U.vm) qK, qD⟩, va_recv hKc hPc (ci := 4) (q0 := 0) rfl rfl, fun U hU hW => ⟨rfl, by rw [hU], by rw [hU]; exact hPc, va_K.moved hW.alike hKc, hDc.weaken (fun _ _ _ _ => trivial)⟩⟩ rfl rfl hl.1 rfl (lv_room (Nat.le_of_ble_eq_true rfl)) dX4_setOrAddPair_24 ⟨Nat.le_of_ble_eq_true rfl, Nat.le_of_ble_eq_true rfl⟩) hS (fun q _ h => hFc q h) hFc (fun r9 u9 t H1 locs ht hvm hw hB hz1 hk1 hS => ?_)
    obtain ⟨hw1, hw2⟩ := hw
    have hw2 := hw2.symm
    subst hw1 hw2
    obtain ⟨hP1, hK1, hD1⟩ := hB
    rw [ht] at hP1
    obtain ⟨hP, hD⟩ := jP_P0 hP hD hk1 hFc hP1 hD1
    clear hPc hDc hKc hFc hz1 hk1 hP1 hK1 hD1 ht hvm
    generalize H1 = H at hP hS ⊢
    refine lv_aload_n hx hb dX4_setOrAddPair_27 rfl (lv_at hl 1 rfl) ?_
    refine lv_iload_n hx hb dX4_setOrAddPair_28 rfl (lv_at hl 0 rfl) ?_
    obtain ⟨hPc, hDc, hFc⟩ := xP_P hP hD hS hA
    have hKc := hK.sub (tys' := [(cI, .int)]) [0] rfl
    refine va_calli (va_runV (As := [.int (a1 >>> ((1 : Int32) &&& 31))]) (rest := [.int (f_X4_pair u 2)]) ⟨hx, hb, hml, hown, hts⟩ (k_X4_pair l dC dI cI pO mS mA dS dA cO iA oA kO fO aO rA H.size u (a1 >>> ((1 : Int32) &&& 31)) (in_shr1 h1)) (cwV 1 hts gX4_setOrAddPair_X4_pair rfl rfl rfl (by decide +kernel) ⟨Nat.le_of_ble_eq_true rfl, Nat.le_of_ble_eq_true rfl⟩) ⟨fun a U g mk q => by obtain ⟨q0, q1, qP, qK, qD⟩ := q; exact ⟨q0, q1, qP, va_K.moved (u := U) (U := U.calling g mk a) (Vm.Alike.refl U.vm) qK, qD⟩, va_recv hKc hPc (ci := 4) (q0 := 0) rfl rfl, fun U hU hW => ⟨rfl, by rw [hU], by rw [hU]; exact hPc, va_K.moved hW.alike hKc, hDc.weaken (fun _ _ _ _ => trivial)⟩⟩ rfl rfl hl.1 rfl (lv_room (Nat.le_of_ble_eq_true rfl)) dX4_setOrAddPair_29 ⟨Nat.le_of_ble_eq_true rfl, Nat.le_of_ble_eq_true rfl⟩) hS (fun q _ h => hFc q h) hFc (fun r9 u9 t H1 locs ht hvm hw hB hz1 hk1 hS => ?_)
    obtain ⟨hw1, hw2⟩ := hw
    have hw2 := hw2.symm
    subst hw1 hw2
    obtain ⟨hP1, hK1, hD1⟩ := hB
    rw [ht] at hP1
    obtain ⟨hP, hD⟩ := jP_P0 hP hD hk1 hFc hP1 hD1
    clear hPc hDc hKc hFc hz1 hk1 hP1 hK1 hD1 ht hvm
    generalize H1 = H at hP hS ⊢
    refine lv_iadd hx hb dX4_setOrAddPair_32 ?_
    refine lv_istore_n (lv' := [(3, .int ((f_X4_pair u 2) + (f_X4_pair u (a1 >>> ((1 : Int32) &&& 31))))), (2, .int (a1 >>> ((1 : Int32) &&& 31))), (0, .ref pO), (1, .int a1)]) hx hb dX4_setOrAddPair_33 rfl hl (by decide) rfl (fun ls hl => ?_)
    refine lv_aload_n hx hb dX4_setOrAddPair_34 rfl (lv_at hl 2 rfl) ?_
    refine va_get (D := (dC, dI)) (ci := 4) (v := .ref fO) (C := RX4) (T := TX4) (N := 13) hx hb hts iX4_setOrAddPair_X4 hown hK hP 0 rfl rfl 3 (by decide) (hts _ qX4_setOrAddPair_0) (fun _ h9 => h9) rfl dX4_setOrAddPair_35 ?_
    refine lv_iload_n hx hb dX4_setOrAddPair_38 rfl (lv_at hl 0 rfl) ?_
    refine lv_ldc (v := 65535) hx hb hown (hts _ qX4_setOrAddPair_1) dX4_setOrAddPair_39 ?_
    refine jn_b (D := (dC, dI)) (cl := vwCl) (ws := (wP cI pO mS mA dS dA cO iA oA kO fO aO rA u)) (A := A) (H0 := s.heap) (nL := 4) 49 (if ((f_X4_pair u 2) + (f_X4_pair u (a1 >>> ((1 : Int32) &&& 31)))) ≤ (65535 : Int32) then false else true : Bool) [(0, .ref pO), (1, .int a1), (2, .int (a1 >>> ((1 : Int32) &&& 31))), (3, .int ((f_X4_pair u 2) + (f_X4_pair u (a1 >>> ((1 : Int32) &&& 31)))))] [.ref fO] (fun H locs ls hP hS hl => ?_) (fun hJ2 => ?_)
    · skip
      obtain ⟨hPc, hDc, hFc⟩ := xP_F hP hD hS hA
      have hKc := hK.sub (tys' := [(cI, .int)]) [0] rfl
      refine va_callv (va_runV (As := [.int (bI (if ((f_X4_pair u 2) + (f_X4_pair u (a1 >>> ((1 : Int32) &&& 31)))) ≤ (65535 : Int32) then false else true : Bool))]) (rest := []) ⟨hx, hb, hml, hown, hts⟩ (k_X3_setCarry l dC dI cI fO H.size (gPW_F u) (if ((f_X4_pair u 2) + (f_X4_pair u (a1 >>> ((1 : Int32) &&& 31)))) ≤ (65535 : Int32) then false else true : Bool)) (cwV 1 hts gX4_setOrAddPair_X3_setCarry rfl rfl rfl (by decide +kernel) ⟨Nat.le_of_ble_eq_true rfl, Nat.le_of_ble_eq_true rfl⟩) ⟨fun a U g mk q => by obtain ⟨q0, q1, qP, qK, qD⟩ := q; exact ⟨q0, q1, qP, va_K.moved (u := U) (U := U.calling g mk a) (Vm.Alike.refl U.vm) qK, qD⟩, va_recv hKc hPc (ci := 3) (q0 := 0) rfl rfl, fun U hU hW => ⟨rfl, by rw [hU], by rw [hU]; exact hPc, va_K.moved hW.alike hKc, hDc.weaken (fun _ _ _ _ => trivial)⟩⟩ rfl rfl hl.1 rfl (lv_room (Nat.le_of_ble_eq_true rfl)) dX4_setOrAddPair_49 ⟨Nat.le_of_ble_eq_true rfl, Nat.le_of_ble_eq_true rfl⟩) hS (fun q _ h => hFc q h) hFc (fun u9 t H1 locs ht hvm hw hB hz1 hk1 hS => ?_)
      subst hw
      obtain ⟨hP1, hK1, hD1⟩ := hB
      rw [ht] at hP1
      obtain ⟨hP, hD⟩ := jP_F hP hD hk1 hFc hP1 hD1
      clear hPc hDc hKc hFc hz1 hk1 hP1 hK1 hD1 ht hvm
      generalize H1 = H at hP hS ⊢
      refine lv_aload_n hx hb dX4_setOrAddPair_52 rfl (lv_at hl 0 rfl) ?_
      refine lv_iconst (v := 2) hx hb dX4_setOrAddPair_53 (by decide) ?_
      refine lv_iload_n hx hb dX4_setOrAddPair_54 rfl (lv_at hl 3 rfl) ?_
      obtain ⟨hPc, hDc, hFc⟩ := xP_P hP hD hS hA
      have hKc := hK.sub (tys' := [(cI, .int)]) [0] rfl
      refine va_callv (va_runV (As := [.int 2, .int ((f_X4_pair u 2) + (f_X4_pair u (a1 >>> ((1 : Int32) &&& 31))))]) (rest := []) ⟨hx, hb, hml, hown, hts⟩ (k_X4_setPair l dC dI cI pO mS mA dS dA cO iA oA kO fO aO rA H.size (sPW_F u (f_X3_setCarry (gPW_F u) (if ((f_X4_pair u 2) + (f_X4_pair u (a1 >>> ((1 : Int32) &&& 31)))) ≤ (65535 : Int32) then false else true : Bool))) 2 ((f_X4_pair u 2) + (f_X4_pair u (a1 >>> ((1 : Int32) &&& 31)))) (ix_lit (by decide))) (cwV 2 hts gX4_setOrAddPair_X4_setPair rfl rfl rfl (by decide +kernel) ⟨Nat.le_of_ble_eq_true rfl, Nat.le_of_ble_eq_true rfl⟩) ⟨fun a U g mk q => by obtain ⟨q0, q1, qP, qK, qD⟩ := q; exact ⟨q0, q1, qP, va_K.moved (u := U) (U := U.calling g mk a) (Vm.Alike.refl U.vm) qK, qD⟩, va_recv hKc hPc (ci := 4) (q0 := 0) rfl rfl, fun U hU hW => ⟨rfl, by rw [hU], by rw [hU]; exact hPc, va_K.moved hW.alike hKc, hDc.weaken (fun _ _ _ _ => trivial)⟩⟩ rfl rfl hl.1 rfl (lv_room (Nat.le_of_ble_eq_true rfl)) dX4_setOrAddPair_55 ⟨Nat.le_of_ble_eq_true rfl, Nat.le_of_ble_eq_true rfl⟩) hS (fun q _ h => hFc q h) hFc (fun u9 t H1 locs ht hvm hw hB hz1 hk1 hS => ?_)
      subst hw
      obtain ⟨hP1, hK1, hD1⟩ := hB
      rw [ht] at hP1
      obtain ⟨hP, hD⟩ := jP_P hP hD hk1 hFc hP1 hD1
      clear hPc hDc hKc hFc hz1 hk1 hP1 hK1 hD1 ht hvm
      generalize H1 = H at hP hS ⊢
      refine lv_bipush (v := 10) hx hb dX4_setOrAddPair_58 (by decide) ?_
      exact W.iret (v := 10) hx hb hr (fun t ht hW => ⟨⟨10, (f_X4_setPair (sPW_F u (f_X3_setCarry (gPW_F u) (if ((f_X4_pair u 2) + (f_X4_pair u (a1 >>> ((1 : Int32) &&& 31)))) ≤ (65535 : Int32) then false else true : Bool))) 2 ((f_X4_pair u 2) + (f_X4_pair u (a1 >>> ((1 : Int32) &&& 31))))), rfl, ⟨(by simp only [f_X4_setOrAddPair, if_neg c1]), (by simp only [f_X4_setOrAddPair, if_neg c1])⟩, by rw [ht]; exact hP, va_K.moved hW.alike hK, hD⟩, hS.F ht⟩) hS.2.2 dX4_setOrAddPair_60
    · skip
      refine lv_icmp_le (tgt := 48) hx hb dX4_setOrAddPair_41 (by decide) (fun c3 => ?_) (fun c3 => ?_)
      · skip
        refine lv_iconst (v := 0) hx hb dX4_setOrAddPair_48 (by decide) ?_
        exact hJ2 false _ _ _ (by simp only [if_pos c3]) hP hS (lv_sub hl [2, 3, 1, 0] rfl)
      · skip
        refine lv_iconst (v := 1) hx hb dX4_setOrAddPair_44 (by decide) ?_
        refine lv_goto (tgt := 49) hx hb dX4_setOrAddPair_45 (by decide) ?_
        exact hJ2 true _ _ _ (by simp only [if_neg c3]) hP hS (lv_sub hl [2, 3, 1, 0] rfl)
  · skip
    refine lv_aload_n hx hb dX4_setOrAddPair_10 rfl (lv_at hl 1 rfl) ?_
    refine lv_iload_n hx hb dX4_setOrAddPair_11 rfl (lv_at hl 0 rfl) ?_
    refine lv_aload_n hx hb dX4_setOrAddPair_12 rfl (lv_at hl 1 rfl) ?_
    obtain ⟨hPc, hDc, hFc⟩ := xP_P hP hD hS hA
    have hKc := hK.sub (tys' := [(cI, .int)]) [0] rfl
    refine va_calli (va_runV (As := []) (rest := [.int (a1 >>> ((1 : Int32) &&& 31)), .ref pO]) ⟨hx, hb, hml, hown, hts⟩ (k_X4_nextWord l dC dI cI pO mS mA dS dA cO iA oA kO fO aO rA H.size u) (cwV 0 hts gX4_setOrAddPair_X4_nextWord rfl rfl rfl (by decide +kernel) ⟨Nat.le_of_ble_eq_true rfl, Nat.le_of_ble_eq_true rfl⟩) ⟨fun a U g mk q => by obtain ⟨q0, q1, qP, qK, qD⟩ := q; exact ⟨q0, q1, qP, va_K.moved (u := U) (U := U.calling g mk a) (Vm.Alike.refl U.vm) qK, qD⟩, va_recv hKc hPc (ci := 4) (q0 := 0) rfl rfl, fun U hU hW => ⟨rfl, by rw [hU], by rw [hU]; exact hPc, va_K.moved hW.alike hKc, hDc.weaken (fun _ _ _ _ => trivial)⟩⟩ rfl rfl hl.1 rfl (lv_room (Nat.le_of_ble_eq_true rfl)) dX4_setOrAddPair_13 ⟨Nat.le_of_ble_eq_true rfl, Nat.le_of_ble_eq_true rfl⟩) hS (fun q _ h => hFc q h) hFc (fun r9 u9 t H1 locs ht hvm hw hB hz1 hk1 hS => ?_)
    obtain ⟨rfl, rfl⟩ := hw
    obtain ⟨hP1, hK1, hD1⟩ := hB
    rw [ht] at hP1
    obtain ⟨hP, hD⟩ := jP_P hP hD hk1 hFc hP1 hD1
    clear hPc hDc hKc hFc hz1 hk1 hP1 hK1 hD1 ht hvm
    generalize H1 = H at hP hS ⊢
    obtain ⟨hPc, hDc, hFc⟩ := xP_P hP hD hS hA
    have hKc := hK.sub (tys' := [(cI, .int)]) [0] rfl
    refine va_callv (va_runV (As := [.int (a1 >>> ((1 : Int32) &&& 31)), .int (f_X4_nextWord u).1]) (rest := []) ⟨hx, hb, hml, hown, hts⟩ (k_X4_setPair l dC dI cI pO mS mA dS dA cO iA oA kO fO aO rA H.size (f_X4_nextWord u).2 (a1 >>> ((1 : Int32) &&& 31)) (f_X4_nextWord u).1 (in_shr1 h1)) (cwV 2 hts gX4_setOrAddPair_X4_setPair rfl rfl rfl (by decide +kernel) ⟨Nat.le_of_ble_eq_true rfl, Nat.le_of_ble_eq_true rfl⟩) ⟨fun a U g mk q => by obtain ⟨q0, q1, qP, qK, qD⟩ := q; exact ⟨q0, q1, qP, va_K.moved (u := U) (U := U.calling g mk a) (Vm.Alike.refl U.vm) qK, qD⟩, va_recv hKc hPc (ci := 4) (q0 := 0) rfl rfl, fun U hU hW => ⟨rfl, by rw [hU], by rw [hU]; exact hPc, va_K.moved hW.alike hKc, hDc.weaken (fun _ _ _ _ => trivial)⟩⟩ rfl rfl hl.1 rfl (lv_room (Nat.le_of_ble_eq_true rfl)) dX4_setOrAddPair_16 ⟨Nat.le_of_ble_eq_true rfl, Nat.le_of_ble_eq_true rfl⟩) hS (fun q _ h => hFc q h) hFc (fun u9 t H1 locs ht hvm hw hB hz1 hk1 hS => ?_)
    subst hw
    obtain ⟨hP1, hK1, hD1⟩ := hB
    rw [ht] at hP1
    obtain ⟨hP, hD⟩ := jP_P hP hD hk1 hFc hP1 hD1
    clear hPc hDc hKc hFc hz1 hk1 hP1 hK1 hD1 ht hvm
    generalize H1 = H at hP hS ⊢
    refine lv_goto (tgt := 58) hx hb dX4_setOrAddPair_19 (by decide) ?_
    refine lv_bipush (v := 10) hx hb dX4_setOrAddPair_58 (by decide) ?_
    exact W.iret (v := 10) hx hb hr (fun t ht hW => ⟨⟨10, (f_X4_setPair (f_X4_nextWord u).2 (a1 >>> ((1 : Int32) &&& 31)) (f_X4_nextWord u).1), rfl, ⟨(by simp only [f_X4_setOrAddPair, if_pos c1]), (by simp only [f_X4_setOrAddPair, if_pos c1])⟩, by rw [ht]; exact hP, va_K.moved hW.alike hK, hD⟩, hS.F ht⟩) hS.2.2 dX4_setOrAddPair_60

def f_X4_stepPair (u : PW) (a1 : Int32) : Int32 × PW := (5, (f_X4_setPair u (a1 >>> ((1 : Int32) &&& 31)) (if (a1 &&& (1 : Int32)) = (0 : Int32) then ((f_X4_pair u (a1 >>> ((1 : Int32) &&& 31))) + (1 : Int32)) else ((f_X4_pair u (a1 >>> ((1 : Int32) &&& 31))) - (1 : Int32)) : Int32)))

set_option maxHeartbeats 4000000 in
set_option maxRecDepth 100000 in
theorem k_X4_stepPair (l : Launch) (dC : Nat → ClassId) (dI : Nat → Nat → Nat) (cI : ClassId) (pO mS mA dS dA cO iA oA kO fO aO rA : Nat) (sz : Nat) (u : PW) (a1 : Int32) (h1 : vp_in a1 8) : Met l yX4_stepPair wsX4_stepPair ({ frames := 1, cells := 0, slots := 0, locals := 22 }) (va_Pc [.ref pO, .int a1] (wB dC dI [(cI, .int)] sz (wP cI pO mS mA dS dA cO iA oA kO fO aO rA u))) (va_Qi (fun (r : Int32) (u' : PW) => r = (f_X4_stepPair u a1).1 ∧ u' = (f_X4_stepPair u a1).2) (fun u' => wE dC dI [(cI, .int)] (va_A (wP cI pO mS mA dS dA cO iA oA kO fO aO rA u) sz) (wP cI pO mS mA dS dA cO iA oA kO fO aO rA u')) (va_A (wP cI pO mS mA dS dA cO iA oA kO fO aO rA u) sz)) 0 0 (va_A (wP cI pO mS mA dS dA cO iA oA kO fO aO rA u) sz) := by
  refine Met.ofW (cc := cX4_stepPair) (maxL := 3) (ret := (some .int)) (by decide) rfl ?_
  intro p e s m args below meth c s₁ B hml hv
  obtain ⟨rfl, hsz, hP, hK, hD0⟩ := hv
  have hx := B.exec
  have hb := B.bytes
  have hr := B.returns
  have hts := atoms_spec (ws := wsX4_stepPair) B.pre
  have hown : s.vm.findClass RX4 = some m.cls := findClass_of_methodNamed B.named
  have hlocks := B.notSynchronized
  subst hsz
  have hD := hD0.self (sz := s.heap.size)
  generalize hAe : va_A (wP cI pO mS mA dS dA cO iA oA kO fO aO rA u) s.heap.size = A at hD ⊢
  have hA : ∀ q : Nat, s.heap.size ≤ q → A q := fun q h => by rw [← hAe]; exact Or.inr h
  have hS : va_S A s.heap s.heap [] := va_S.rf
  have hP : va_P (dC, dI) vwCl (wP cI pO mS mA dS dA cO iA oA kO fO aO rA u) s.heap := hP
  clear hAe hD0
  have hl := lv_entry ([.ref pO, .int a1]) (n := 3) (Nat.le_of_ble_eq_true rfl)
  rw [lg_entry_eq]
  generalize (lg_sl ([.ref pO, .int a1]) ++ List.replicate (3 - (lg_sl ([.ref pO, .int a1])).length) Slot.unset).toArray = ls at hl ⊢
  have hl : lv_has ls 3 [(0, .ref pO), (1, .int a1)] := hl
  refine jn_H hP hS (fun H locs hP hS => ?_)
  refine lv_iload_n hx hb dX4_stepPair_0 rfl (lv_at hl 1 rfl) ?_
  refine lv_iconst (v := 1) hx hb dX4_stepPair_1 (by decide) ?_
  refine lv_ishr hx hb dX4_stepPair_2 ?_
  refine lv_istore_n (lv' := [(2, .int (a1 >>> ((1 : Int32) &&& 31))), (0, .ref pO), (1, .int a1)]) hx hb dX4_stepPair_3 rfl hl (by decide) rfl (fun ls hl => ?_)
  refine lv_aload_n hx hb dX4_stepPair_4 rfl (lv_at hl 1 rfl) ?_
  refine lv_iload_n hx hb dX4_stepPair_5 rfl (lv_at hl 0 rfl) ?_
  refine lv_iload_n hx hb dX4_stepPair_6 rfl (lv_at hl 2 rfl) ?_
  refine lv_iconst (v := 1) hx hb dX4_stepPair_7 (by decide) ?_
  refine lv_iand hx hb dX4_stepPair_8 ?_
  refine jn_i (D := (dC, dI)) (cl := vwCl) (ws := (wP cI pO mS mA dS dA cO iA oA kO fO aO rA u)) (A := A) (H0 := s.heap) (nL := 3) 29 (if (a1 &&& (1 : Int32)) = (0 : Int32) then ((f_X4_pair u (a1 >>> ((1 : Int32) &&& 31))) + (1 : Int32)) else ((f_X4_pair u (a1 >>> ((1 : Int32) &&& 31))) - (1 : Int32)) : Int32) [(0, .ref pO), (1, .int a1), (2, .int (a1 >>> ((1 : Int32) &&& 31)))] [.int (a1 >>> ((1 : Int32) &&& 31)), .ref pO] (fun H locs ls hP hS hl => ?_) (fun hJ1 => ?_)
  · skip
    obtain ⟨hPc, hDc, hFc⟩ := xP_P hP hD hS hA
    have hKc := hK.sub (tys' := [(cI, .int)]) [0] rfl
    refine va_callv (va_runV (As := [.int (a1 >>> ((1 : Int32) &&& 31)), .int (if (a1 &&& (1 : Int32)) = (0 : Int32) then ((f_X4_pair u (a1 >>> ((1 : Int32) &&& 31))) + (1 : Int32)) else ((f_X4_pair u (a1 >>> ((1 : Int32) &&& 31))) - (1 : Int32)) : Int32)]) (rest := []) ⟨hx, hb, hml, hown, hts⟩ (k_X4_setPair l dC dI cI pO mS mA dS dA cO iA oA kO fO aO rA H.size u (a1 >>> ((1 : Int32) &&& 31)) (if (a1 &&& (1 : Int32)) = (0 : Int32) then ((f_X4_pair u (a1 >>> ((1 : Int32) &&& 31))) + (1 : Int32)) else ((f_X4_pair u (a1 >>> ((1 : Int32) &&& 31))) - (1 : Int32)) : Int32) (in_shr1 h1)) (cwV 2 hts gX4_stepPair_X4_setPair rfl rfl rfl (by decide +kernel) ⟨Nat.le_of_ble_eq_true rfl, Nat.le_of_ble_eq_true rfl⟩) ⟨fun a U g mk q => by obtain ⟨q0, q1, qP, qK, qD⟩ := q; exact ⟨q0, q1, qP, va_K.moved (u := U) (U := U.calling g mk a) (Vm.Alike.refl U.vm) qK, qD⟩, va_recv hKc hPc (ci := 4) (q0 := 0) rfl rfl, fun U hU hW => ⟨rfl, by rw [hU], by rw [hU]; exact hPc, va_K.moved hW.alike hKc, hDc.weaken (fun _ _ _ _ => trivial)⟩⟩ rfl rfl hl.1 rfl (lv_room (Nat.le_of_ble_eq_true rfl)) dX4_stepPair_29 ⟨Nat.le_of_ble_eq_true rfl, Nat.le_of_ble_eq_true rfl⟩) hS (fun q _ h => hFc q h) hFc (fun u9 t H1 locs ht hvm hw hB hz1 hk1 hS => ?_)
    subst hw
    obtain ⟨hP1, hK1, hD1⟩ := hB
    rw [ht] at hP1
    obtain ⟨hP, hD⟩ := jP_P hP hD hk1 hFc hP1 hD1
    clear hPc hDc hKc hFc hz1 hk1 hP1 hK1 hD1 ht hvm
    generalize H1 = H at hP hS ⊢
    refine lv_iconst (v := 5) hx hb dX4_stepPair_32 (by decide) ?_
    exact W.iret (v := 5) hx hb hr (fun t ht hW => ⟨⟨5, (f_X4_setPair u (a1 >>> ((1 : Int32) &&& 31)) (if (a1 &&& (1 : Int32)) = (0 : Int32) then ((f_X4_pair u (a1 >>> ((1 : Int32) &&& 31))) + (1 : Int32)) else ((f_X4_pair u (a1 >>> ((1 : Int32) &&& 31))) - (1 : Int32)) : Int32)), rfl, ⟨rfl, rfl⟩, by rw [ht]; exact hP, va_K.moved hW.alike hK, hD⟩, hS.F ht⟩) hS.2.2 dX4_stepPair_33
  · skip
    refine lv_if_ne (tgt := 22) hx hb dX4_stepPair_9 (by decide) (fun c2 => ?_) (fun c2 => ?_)
    · skip
      refine lv_aload_n hx hb dX4_stepPair_22 rfl (lv_at hl 1 rfl) ?_
      refine lv_iload_n hx hb dX4_stepPair_23 rfl (lv_at hl 0 rfl) ?_
      obtain ⟨hPc, hDc, hFc⟩ := xP_P hP hD hS hA
      have hKc := hK.sub (tys' := [(cI, .int)]) [0] rfl
      refine va_calli (va_runV (As := [.int (a1 >>> ((1 : Int32) &&& 31))]) (rest := [.int (a1 >>> ((1 : Int32) &&& 31)), .ref pO]) ⟨hx, hb, hml, hown, hts⟩ (k_X4_pair l dC dI cI pO mS mA dS dA cO iA oA kO fO aO rA H.size u (a1 >>> ((1 : Int32) &&& 31)) (in_shr1 h1)) (cwV 1 hts gX4_stepPair_X4_pair rfl rfl rfl (by decide +kernel) ⟨Nat.le_of_ble_eq_true rfl, Nat.le_of_ble_eq_true rfl⟩) ⟨fun a U g mk q => by obtain ⟨q0, q1, qP, qK, qD⟩ := q; exact ⟨q0, q1, qP, va_K.moved (u := U) (U := U.calling g mk a) (Vm.Alike.refl U.vm) qK, qD⟩, va_recv hKc hPc (ci := 4) (q0 := 0) rfl rfl, fun U hU hW => ⟨rfl, by rw [hU], by rw [hU]; exact hPc, va_K.moved hW.alike hKc, hDc.weaken (fun _ _ _ _ => trivial)⟩⟩ rfl rfl hl.1 rfl (lv_room (Nat.le_of_ble_eq_true rfl)) dX4_stepPair_24 ⟨Nat.le_of_ble_eq_true rfl, Nat.le_of_ble_eq_true rfl⟩) hS (fun q _ h => hFc q h) hFc (fun r9 u9 t H1 locs ht hvm hw hB hz1 hk1 hS => ?_)
      obtain ⟨hw1, hw2⟩ := hw
      have hw2 := hw2.symm
      subst hw1 hw2
      obtain ⟨hP1, hK1, hD1⟩ := hB
      rw [ht] at hP1
      obtain ⟨hP, hD⟩ := jP_P0 hP hD hk1 hFc hP1 hD1
      clear hPc hDc hKc hFc hz1 hk1 hP1 hK1 hD1 ht hvm
      generalize H1 = H at hP hS ⊢
      refine lv_iconst (v := 1) hx hb dX4_stepPair_27 (by decide) ?_
      refine lv_isub hx hb dX4_stepPair_28 ?_
      exact hJ1 ((f_X4_pair u (a1 >>> ((1 : Int32) &&& 31))) - (1 : Int32)) _ _ _ (by simp only [if_neg c2]) hP hS (lv_sub hl [1, 2, 0] rfl)
    · skip
      refine lv_aload_n hx hb dX4_stepPair_12 rfl (lv_at hl 1 rfl) ?_
      refine lv_iload_n hx hb dX4_stepPair_13 rfl (lv_at hl 0 rfl) ?_
      obtain ⟨hPc, hDc, hFc⟩ := xP_P hP hD hS hA
      have hKc := hK.sub (tys' := [(cI, .int)]) [0] rfl
      refine va_calli (va_runV (As := [.int (a1 >>> ((1 : Int32) &&& 31))]) (rest := [.int (a1 >>> ((1 : Int32) &&& 31)), .ref pO]) ⟨hx, hb, hml, hown, hts⟩ (k_X4_pair l dC dI cI pO mS mA dS dA cO iA oA kO fO aO rA H.size u (a1 >>> ((1 : Int32) &&& 31)) (in_shr1 h1)) (cwV 1 hts gX4_stepPair_X4_pair rfl rfl rfl (by decide +kernel) ⟨Nat.le_of_ble_eq_true rfl, Nat.le_of_ble_eq_true rfl⟩) ⟨fun a U g mk q => by obtain ⟨q0, q1, qP, qK, qD⟩ := q; exact ⟨q0, q1, qP, va_K.moved (u := U) (U := U.calling g mk a) (Vm.Alike.refl U.vm) qK, qD⟩, va_recv hKc hPc (ci := 4) (q0 := 0) rfl rfl, fun U hU hW => ⟨rfl, by rw [hU], by rw [hU]; exact hPc, va_K.moved hW.alike hKc, hDc.weaken (fun _ _ _ _ => trivial)⟩⟩ rfl rfl hl.1 rfl (lv_room (Nat.le_of_ble_eq_true rfl)) dX4_stepPair_14 ⟨Nat.le_of_ble_eq_true rfl, Nat.le_of_ble_eq_true rfl⟩) hS (fun q _ h => hFc q h) hFc (fun r9 u9 t H1 locs ht hvm hw hB hz1 hk1 hS => ?_)
      obtain ⟨hw1, hw2⟩ := hw
      have hw2 := hw2.symm
      subst hw1 hw2
      obtain ⟨hP1, hK1, hD1⟩ := hB
      rw [ht] at hP1
      obtain ⟨hP, hD⟩ := jP_P0 hP hD hk1 hFc hP1 hD1
      clear hPc hDc hKc hFc hz1 hk1 hP1 hK1 hD1 ht hvm
      generalize H1 = H at hP hS ⊢
      refine lv_iconst (v := 1) hx hb dX4_stepPair_17 (by decide) ?_
      refine lv_iadd hx hb dX4_stepPair_18 ?_
      refine lv_goto (tgt := 29) hx hb dX4_stepPair_19 (by decide) ?_
      exact hJ1 ((f_X4_pair u (a1 >>> ((1 : Int32) &&& 31))) + (1 : Int32)) _ _ _ (by simp only [if_pos c2]) hP hS (lv_sub hl [1, 2, 0] rfl)

def f_X4_moveByAddress (u : PW) (a1 : Int32) : Int32 × PW := 
  if a1 = 0 then (7, (sPW_m u (f_X5_setByte (gPW_m u) (f_X4_pair u (a1 >>> ((1 : Int32) &&& 31))) ((gPW_P_r u) (7 : Int32).toNatClampNeg))))
  else 
    if a1 = 1 then (7, (sPW_P_r u (upd (gPW_P_r u) (7 : Int32).toNatClampNeg (f_X5_byteAt (gPW_m u) (f_X4_pair u (a1 >>> ((1 : Int32) &&& 31)))))))
    else 
      if a1 = 2 then (7, (sPW_m u (f_X5_setByte (gPW_m u) (f_X4_pair u (a1 >>> ((1 : Int32) &&& 31))) ((gPW_P_r u) (7 : Int32).toNatClampNeg))))
      else 
        if a1 = 3 then (7, (sPW_P_r u (upd (gPW_P_r u) (7 : Int32).toNatClampNeg (f_X5_byteAt (gPW_m u) (f_X4_pair u (a1 >>> ((1 : Int32) &&& 31)))))))
        else 
          if a1 = 4 then (16, (sPW_m (f_X4_nextWord u).2 (f_X5_setWord (gPW_m (f_X4_nextWord u).2) (f_X4_nextWord u).1 (f_X4_pair (f_X4_nextWord u).2 2))))
          else 
            if a1 = 5 then (16, (f_X4_setPair (f_X4_nextWord u).2 2 (f_X5_wordAt (gPW_m (f_X4_nextWord u).2) (f_X4_nextWord u).1)))
            else 
              if a1 = 6 then (13, (sPW_m (f_X4_nextWord u).2 (f_X5_setByte (gPW_m (f_X4_nextWord u).2) (f_X4_nextWord u).1 ((gPW_P_r (f_X4_nextWord u).2) (7 : Int32).toNatClampNeg))))
              else (13, (sPW_P_r (f_X4_nextWord u).2 (upd (gPW_P_r (f_X4_nextWord u).2) (7 : Int32).toNatClampNeg (f_X5_byteAt (gPW_m (f_X4_nextWord u).2) (f_X4_nextWord u).1))))
theorem qX4_moveByAddress_0 : Cond.fieldLink RX4 27 "DiskMachine$Processor" "registers" "[I" ∈ wsX4_moveByAddress := by decide +kernel
theorem qX4_moveByAddress_1 : Cond.fieldLink RX4 35 "DiskMachine$Processor" "memory" "LDiskMachine$Store;" ∈ wsX4_moveByAddress := by decide +kernel
theorem iX4_moveByAddress_X4 : ∀ w ∈ wsX40, w ∈ wsX4_moveByAddress := by decide +kernel
set_option maxHeartbeats 4000000 in
set_option maxRecDepth 100000 in
theorem k_X4_moveByAddress (l : Launch) (dC : Nat → ClassId) (dI : Nat → Nat → Nat) (cI : ClassId) (pO mS mA dS dA cO iA oA kO fO aO rA : Nat) (sz : Nat) (u : PW) (a1 : Int32) (h1 : vp_in a1 8) : Met l yX4_moveByAddress wsX4_moveByAddress ({ frames := 2, cells := 0, slots := 0, locals := 42 }) (va_Pc [.ref pO, .int a1] (wB dC dI [(cI, .int)] sz (wP cI pO mS mA dS dA cO iA oA kO fO aO rA u))) (va_Qi (fun (r : Int32) (u' : PW) => r = (f_X4_moveByAddress u a1).1 ∧ u' = (f_X4_moveByAddress u a1).2) (fun u' => wE dC dI [(cI, .int)] (va_A (wP cI pO mS mA dS dA cO iA oA kO fO aO rA u) sz) (wP cI pO mS mA dS dA cO iA oA kO fO aO rA u')) (va_A (wP cI pO mS mA dS dA cO iA oA kO fO aO rA u) sz)) 0 0 (va_A (wP cI pO mS mA dS dA cO iA oA kO fO aO rA u) sz) := by
  refine Met.ofW (cc := cX4_moveByAddress) (maxL := 2) (ret := (some .int)) (by decide) rfl ?_
  intro p e s m args below meth c s₁ B hml hv
  obtain ⟨rfl, hsz, hP, hK, hD0⟩ := hv
  have hx := B.exec
  have hb := B.bytes
  have hr := B.returns
  have hts := atoms_spec (ws := wsX4_moveByAddress) B.pre
  have hown : s.vm.findClass RX4 = some m.cls := findClass_of_methodNamed B.named
  have hlocks := B.notSynchronized
  subst hsz
  have hD := hD0.self (sz := s.heap.size)
  generalize hAe : va_A (wP cI pO mS mA dS dA cO iA oA kO fO aO rA u) s.heap.size = A at hD ⊢
  have hA : ∀ q : Nat, s.heap.size ≤ q → A q := fun q h => by rw [← hAe]; exact Or.inr h
  have hS : va_S A s.heap s.heap [] := va_S.rf
  have hP : va_P (dC, dI) vwCl (wP cI pO mS mA dS dA cO iA oA kO fO aO rA u) s.heap := hP
  clear hAe hD0
  have hl := lv_entry ([.ref pO, .int a1]) (n := 2) (Nat.le_of_ble_eq_true rfl)
  rw [lg_entry_eq]
  generalize (lg_sl ([.ref pO, .int a1]) ++ List.replicate (2 - (lg_sl ([.ref pO, .int a1])).length) Slot.unset).toArray = ls at hl ⊢
  have hl : lv_has ls 2 [(0, .ref pO), (1, .int a1)] := hl
  refine jn_H hP hS (fun H locs hP hS => ?_)
  refine lv_iload_n hx hb dX4_moveByAddress_0 rfl (lv_at hl 1 rfl) ?_
  by_cases c1 : a1 = 0
  · refine tb_in (k := 0) (off := 43) (tgt := 44) hx hb dX4_moveByAddress_1 c1 (by decide) (by decide) (by decide) (by decide) ?_
    refine lv_aload_n hx hb dX4_moveByAddress_44 rfl (lv_at hl 0 rfl) ?_
    refine va_get (D := (dC, dI)) (ci := 4) (v := .ref mS) (C := RX4) (T := TX4) (N := 13) hx hb hts iX4_moveByAddress_X4 hown hK hP 0 rfl rfl 0 (by decide) (hts _ qX4_moveByAddress_1) (fun _ h9 => h9) rfl dX4_moveByAddress_45 ?_
    refine lv_aload_n hx hb dX4_moveByAddress_48 rfl (lv_at hl 0 rfl) ?_
    refine lv_iload_n hx hb dX4_moveByAddress_49 rfl (lv_at hl 1 rfl) ?_
    refine lv_iconst (v := 1) hx hb dX4_moveByAddress_50 (by decide) ?_
    refine lv_ishr hx hb dX4_moveByAddress_51 ?_
    obtain ⟨hPc, hDc, hFc⟩ := xP_P hP hD hS hA
    have hKc := hK.sub (tys' := [(cI, .int)]) [0] rfl
    refine va_calli (va_runV (As := [.int (a1 >>> ((1 : Int32) &&& 31))]) (rest := [.ref mS]) ⟨hx, hb, hml, hown, hts⟩ (k_X4_pair l dC dI cI pO mS mA dS dA cO iA oA kO fO aO rA H.size u (a1 >>> ((1 : Int32) &&& 31)) (in_shr1 h1)) (cwV 1 hts gX4_moveByAddress_X4_pair rfl rfl rfl (by decide +kernel) ⟨Nat.le_of_ble_eq_true rfl, Nat.le_of_ble_eq_true rfl⟩) ⟨fun a U g mk q => by obtain ⟨q0, q1, qP, qK, qD⟩ := q; exact ⟨q0, q1, qP, va_K.moved (u := U) (U := U.calling g mk a) (Vm.Alike.refl U.vm) qK, qD⟩, va_recv hKc hPc (ci := 4) (q0 := 0) rfl rfl, fun U hU hW => ⟨rfl, by rw [hU], by rw [hU]; exact hPc, va_K.moved hW.alike hKc, hDc.weaken (fun _ _ _ _ => trivial)⟩⟩ rfl rfl hl.1 rfl (lv_room (Nat.le_of_ble_eq_true rfl)) dX4_moveByAddress_52 ⟨Nat.le_of_ble_eq_true rfl, Nat.le_of_ble_eq_true rfl⟩) hS (fun q _ h => hFc q h) hFc (fun r9 u9 t H1 locs ht hvm hw hB hz1 hk1 hS => ?_)
    obtain ⟨hw1, hw2⟩ := hw
    have hw2 := hw2.symm
    subst hw1 hw2
    obtain ⟨hP1, hK1, hD1⟩ := hB
    rw [ht] at hP1
    obtain ⟨hP, hD⟩ := jP_P0 hP hD hk1 hFc hP1 hD1
    clear hPc hDc hKc hFc hz1 hk1 hP1 hK1 hD1 ht hvm
    generalize H1 = H at hP hS ⊢
    refine lv_aload_n hx hb dX4_moveByAddress_55 rfl (lv_at hl 0 rfl) ?_
    refine va_get (D := (dC, dI)) (ci := 4) (v := .ref rA) (C := RX4) (T := TX4) (N := 13) hx hb hts iX4_moveByAddress_X4 hown hK hP 0 rfl rfl 5 (by decide) (hts _ qX4_moveByAddress_0) (fun _ h9 => h9) rfl dX4_moveByAddress_56 ?_
    refine lv_bipush (v := 7) hx hb dX4_moveByAddress_59 (by decide) ?_
    refine va_iald (f := (gPW_P_r u)) hx hb hK hP 11 0 rfl rfl (ix_lit (by decide)) dX4_moveByAddress_61 ?_
    obtain ⟨hPc, hDc, hFc⟩ := xP_S_mS hP hD hS hA
    have hKc := hK.sub (tys' := [(cI, .int)]) [0] rfl
    refine va_callv (va_runV (As := [.int (f_X4_pair u (a1 >>> ((1 : Int32) &&& 31))), .int ((gPW_P_r u) (7 : Int32).toNatClampNeg)]) (rest := []) ⟨hx, hb, hml, hown, hts⟩ (k_X5_setByte l dC dI cI mS mA H.size (gPW_m u) (f_X4_pair u (a1 >>> ((1 : Int32) &&& 31))) ((gPW_P_r u) (7 : Int32).toNatClampNeg)) (cwV 2 hts gX4_moveByAddress_X5_setByte rfl rfl rfl (by decide +kernel) ⟨Nat.le_of_ble_eq_true rfl, Nat.le_of_ble_eq_true rfl⟩) ⟨fun a U g mk q => by obtain ⟨q0, q1, qP, qK, qD⟩ := q; exact ⟨q0, q1, qP, va_K.moved (u := U) (U := U.calling g mk a) (Vm.Alike.refl U.vm) qK, qD⟩, va_recv hKc hPc (ci := 5) (q0 := 0) rfl rfl, fun U hU hW => ⟨rfl, by rw [hU], by rw [hU]; exact hPc, va_K.moved hW.alike hKc, hDc.weaken (fun _ _ _ _ => trivial)⟩⟩ rfl rfl hl.1 rfl (lv_room (Nat.le_of_ble_eq_true rfl)) dX4_moveByAddress_62 ⟨Nat.le_of_ble_eq_true rfl, Nat.le_of_ble_eq_true rfl⟩) hS (fun q _ h => hFc q h) hFc (fun u9 t H1 locs ht hvm hw hB hz1 hk1 hS => ?_)
    subst hw
    obtain ⟨hP1, hK1, hD1⟩ := hB
    rw [ht] at hP1
    obtain ⟨hP, hD⟩ := jP_S_mS hP hD hk1 hFc hP1 hD1
    clear hPc hDc hKc hFc hz1 hk1 hP1 hK1 hD1 ht hvm
    generalize H1 = H at hP hS ⊢
    refine lv_bipush (v := 7) hx hb dX4_moveByAddress_65 (by decide) ?_
    exact W.iret (v := 7) hx hb hr (fun t ht hW => ⟨⟨7, (sPW_m u (f_X5_setByte (gPW_m u) (f_X4_pair u (a1 >>> ((1 : Int32) &&& 31))) ((gPW_P_r u) (7 : Int32).toNatClampNeg))), rfl, ⟨(by simp only [f_X4_moveByAddress, if_pos c1]), (by simp only [f_X4_moveByAddress, if_pos c1])⟩, by rw [ht]; exact hP, va_K.moved hW.alike hK, hD⟩, hS.F ht⟩) hS.2.2 dX4_moveByAddress_67
  · skip
    by_cases c2 : a1 = 1
    · refine tb_in (k := 1) (off := 67) (tgt := 68) hx hb dX4_moveByAddress_1 c2 (by decide) (by decide) (by decide) (by decide) ?_
      refine lv_aload_n hx hb dX4_moveByAddress_68 rfl (lv_at hl 0 rfl) ?_
      refine va_get (D := (dC, dI)) (ci := 4) (v := .ref rA) (C := RX4) (T := TX4) (N := 13) hx hb hts iX4_moveByAddress_X4 hown hK hP 0 rfl rfl 5 (by decide) (hts _ qX4_moveByAddress_0) (fun _ h9 => h9) rfl dX4_moveByAddress_69 ?_
      refine lv_bipush (v := 7) hx hb dX4_moveByAddress_72 (by decide) ?_
      refine lv_aload_n hx hb dX4_moveByAddress_74 rfl (lv_at hl 0 rfl) ?_
      refine va_get (D := (dC, dI)) (ci := 4) (v := .ref mS) (C := RX4) (T := TX4) (N := 13) hx hb hts iX4_moveByAddress_X4 hown hK hP 0 rfl rfl 0 (by decide) (hts _ qX4_moveByAddress_1) (fun _ h9 => h9) rfl dX4_moveByAddress_75 ?_
      refine lv_aload_n hx hb dX4_moveByAddress_78 rfl (lv_at hl 0 rfl) ?_
      refine lv_iload_n hx hb dX4_moveByAddress_79 rfl (lv_at hl 1 rfl) ?_
      refine lv_iconst (v := 1) hx hb dX4_moveByAddress_80 (by decide) ?_
      refine lv_ishr hx hb dX4_moveByAddress_81 ?_
      obtain ⟨hPc, hDc, hFc⟩ := xP_P hP hD hS hA
      have hKc := hK.sub (tys' := [(cI, .int)]) [0] rfl
      refine va_calli (va_runV (As := [.int (a1 >>> ((1 : Int32) &&& 31))]) (rest := [.ref mS, .int 7, .ref rA]) ⟨hx, hb, hml, hown, hts⟩ (k_X4_pair l dC dI cI pO mS mA dS dA cO iA oA kO fO aO rA H.size u (a1 >>> ((1 : Int32) &&& 31)) (in_shr1 h1)) (cwV 1 hts gX4_moveByAddress_X4_pair rfl rfl rfl (by decide +kernel) ⟨Nat.le_of_ble_eq_true rfl, Nat.le_of_ble_eq_true rfl⟩) ⟨fun a U g mk q => by obtain ⟨q0, q1, qP, qK, qD⟩ := q; exact ⟨q0, q1, qP, va_K.moved (u := U) (U := U.calling g mk a) (Vm.Alike.refl U.vm) qK, qD⟩, va_recv hKc hPc (ci := 4) (q0 := 0) rfl rfl, fun U hU hW => ⟨rfl, by rw [hU], by rw [hU]; exact hPc, va_K.moved hW.alike hKc, hDc.weaken (fun _ _ _ _ => trivial)⟩⟩ rfl rfl hl.1 rfl (lv_room (Nat.le_of_ble_eq_true rfl)) dX4_moveByAddress_82 ⟨Nat.le_of_ble_eq_true rfl, Nat.le_of_ble_eq_true rfl⟩) hS (fun q _ h => hFc q h) hFc (fun r9 u9 t H1 locs ht hvm hw hB hz1 hk1 hS => ?_)
      obtain ⟨hw1, hw2⟩ := hw
      have hw2 := hw2.symm
      subst hw1 hw2
      obtain ⟨hP1, hK1, hD1⟩ := hB
      rw [ht] at hP1
      obtain ⟨hP, hD⟩ := jP_P0 hP hD hk1 hFc hP1 hD1
      clear hPc hDc hKc hFc hz1 hk1 hP1 hK1 hD1 ht hvm
      generalize H1 = H at hP hS ⊢
      obtain ⟨hPc, hDc, hFc⟩ := xP_S_mS hP hD hS hA
      have hKc := hK.sub (tys' := [(cI, .int)]) [0] rfl
      refine va_calli (va_runV (As := [.int (f_X4_pair u (a1 >>> ((1 : Int32) &&& 31)))]) (rest := [.int 7, .ref rA]) ⟨hx, hb, hml, hown, hts⟩ (k_X5_byteAt l dC dI cI mS mA H.size (gPW_m u) (f_X4_pair u (a1 >>> ((1 : Int32) &&& 31)))) (cwV 1 hts gX4_moveByAddress_X5_byteAt rfl rfl rfl (by decide +kernel) ⟨Nat.le_of_ble_eq_true rfl, Nat.le_of_ble_eq_true rfl⟩) ⟨fun a U g mk q => by obtain ⟨q0, q1, qP, qK, qD⟩ := q; exact ⟨q0, q1, qP, va_K.moved (u := U) (U := U.calling g mk a) (Vm.Alike.refl U.vm) qK, qD⟩, va_recv hKc hPc (ci := 5) (q0 := 0) rfl rfl, fun U hU hW => ⟨rfl, by rw [hU], by rw [hU]; exact hPc, va_K.moved hW.alike hKc, hDc.weaken (fun _ _ _ _ => trivial)⟩⟩ rfl rfl hl.1 rfl (lv_room (Nat.le_of_ble_eq_true rfl)) dX4_moveByAddress_85 ⟨Nat.le_of_ble_eq_true rfl, Nat.le_of_ble_eq_true rfl⟩) hS (fun q _ h => hFc q h) hFc (fun r9 u9 t H1 locs ht hvm hw hB hz1 hk1 hS => ?_)
      obtain ⟨hw1, hw2⟩ := hw
      have hw2 := hw2.symm
      subst hw1 hw2
      obtain ⟨hP1, hK1, hD1⟩ := hB
      rw [ht] at hP1
      obtain ⟨hP, hD⟩ := jP_S_mS0 hP hD hk1 hFc hP1 hD1
      clear hPc hDc hKc hFc hz1 hk1 hP1 hK1 hD1 ht hvm
      generalize H1 = H at hP hS ⊢
      refine va_iast (f := (gPW_P_r u)) hx hb hK hP hD hS 11 0 rfl rfl (ix_lit (by decide)) dX4_moveByAddress_88 (fun H locs hP hD hS => ?_)
      obtain ⟨hP, hD⟩ := aP_rA hP hD
      refine lv_bipush (v := 7) hx hb dX4_moveByAddress_89 (by decide) ?_
      exact W.iret (v := 7) hx hb hr (fun t ht hW => ⟨⟨7, (sPW_P_r u (upd (gPW_P_r u) (7 : Int32).toNatClampNeg (f_X5_byteAt (gPW_m u) (f_X4_pair u (a1 >>> ((1 : Int32) &&& 31)))))), rfl, ⟨(by simp only [f_X4_moveByAddress, if_neg c1, if_pos c2]), (by simp only [f_X4_moveByAddress, if_neg c1, if_pos c2])⟩, by rw [ht]; exact hP, va_K.moved hW.alike hK, hD⟩, hS.F ht⟩) hS.2.2 dX4_moveByAddress_91
    · skip
      by_cases c3 : a1 = 2
      · refine tb_in (k := 2) (off := 43) (tgt := 44) hx hb dX4_moveByAddress_1 c3 (by decide) (by decide) (by decide) (by decide) ?_
        refine lv_aload_n hx hb dX4_moveByAddress_44 rfl (lv_at hl 0 rfl) ?_
        refine va_get (D := (dC, dI)) (ci := 4) (v := .ref mS) (C := RX4) (T := TX4) (N := 13) hx hb hts iX4_moveByAddress_X4 hown hK hP 0 rfl rfl 0 (by decide) (hts _ qX4_moveByAddress_1) (fun _ h9 => h9) rfl dX4_moveByAddress_45 ?_
        refine lv_aload_n hx hb dX4_moveByAddress_48 rfl (lv_at hl 0 rfl) ?_
        refine lv_iload_n hx hb dX4_moveByAddress_49 rfl (lv_at hl 1 rfl) ?_
        refine lv_iconst (v := 1) hx hb dX4_moveByAddress_50 (by decide) ?_
        refine lv_ishr hx hb dX4_moveByAddress_51 ?_
        obtain ⟨hPc, hDc, hFc⟩ := xP_P hP hD hS hA
        have hKc := hK.sub (tys' := [(cI, .int)]) [0] rfl
        refine va_calli (va_runV (As := [.int (a1 >>> ((1 : Int32) &&& 31))]) (rest := [.ref mS]) ⟨hx, hb, hml, hown, hts⟩ (k_X4_pair l dC dI cI pO mS mA dS dA cO iA oA kO fO aO rA H.size u (a1 >>> ((1 : Int32) &&& 31)) (in_shr1 h1)) (cwV 1 hts gX4_moveByAddress_X4_pair rfl rfl rfl (by decide +kernel) ⟨Nat.le_of_ble_eq_true rfl, Nat.le_of_ble_eq_true rfl⟩) ⟨fun a U g mk q => by obtain ⟨q0, q1, qP, qK, qD⟩ := q; exact ⟨q0, q1, qP, va_K.moved (u := U) (U := U.calling g mk a) (Vm.Alike.refl U.vm) qK, qD⟩, va_recv hKc hPc (ci := 4) (q0 := 0) rfl rfl, fun U hU hW => ⟨rfl, by rw [hU], by rw [hU]; exact hPc, va_K.moved hW.alike hKc, hDc.weaken (fun _ _ _ _ => trivial)⟩⟩ rfl rfl hl.1 rfl (lv_room (Nat.le_of_ble_eq_true rfl)) dX4_moveByAddress_52 ⟨Nat.le_of_ble_eq_true rfl, Nat.le_of_ble_eq_true rfl⟩) hS (fun q _ h => hFc q h) hFc (fun r9 u9 t H1 locs ht hvm hw hB hz1 hk1 hS => ?_)
        obtain ⟨hw1, hw2⟩ := hw
        have hw2 := hw2.symm
        subst hw1 hw2
        obtain ⟨hP1, hK1, hD1⟩ := hB
        rw [ht] at hP1
        obtain ⟨hP, hD⟩ := jP_P0 hP hD hk1 hFc hP1 hD1
        clear hPc hDc hKc hFc hz1 hk1 hP1 hK1 hD1 ht hvm
        generalize H1 = H at hP hS ⊢
        refine lv_aload_n hx hb dX4_moveByAddress_55 rfl (lv_at hl 0 rfl) ?_
        refine va_get (D := (dC, dI)) (ci := 4) (v := .ref rA) (C := RX4) (T := TX4) (N := 13) hx hb hts iX4_moveByAddress_X4 hown hK hP 0 rfl rfl 5 (by decide) (hts _ qX4_moveByAddress_0) (fun _ h9 => h9) rfl dX4_moveByAddress_56 ?_
        refine lv_bipush (v := 7) hx hb dX4_moveByAddress_59 (by decide) ?_
        refine va_iald (f := (gPW_P_r u)) hx hb hK hP 11 0 rfl rfl (ix_lit (by decide)) dX4_moveByAddress_61 ?_
        obtain ⟨hPc, hDc, hFc⟩ := xP_S_mS hP hD hS hA
        have hKc := hK.sub (tys' := [(cI, .int)]) [0] rfl
        refine va_callv (va_runV (As := [.int (f_X4_pair u (a1 >>> ((1 : Int32) &&& 31))), .int ((gPW_P_r u) (7 : Int32).toNatClampNeg)]) (rest := []) ⟨hx, hb, hml, hown, hts⟩ (k_X5_setByte l dC dI cI mS mA H.size (gPW_m u) (f_X4_pair u (a1 >>> ((1 : Int32) &&& 31))) ((gPW_P_r u) (7 : Int32).toNatClampNeg)) (cwV 2 hts gX4_moveByAddress_X5_setByte rfl rfl rfl (by decide +kernel) ⟨Nat.le_of_ble_eq_true rfl, Nat.le_of_ble_eq_true rfl⟩) ⟨fun a U g mk q => by obtain ⟨q0, q1, qP, qK, qD⟩ := q; exact ⟨q0, q1, qP, va_K.moved (u := U) (U := U.calling g mk a) (Vm.Alike.refl U.vm) qK, qD⟩, va_recv hKc hPc (ci := 5) (q0 := 0) rfl rfl, fun U hU hW => ⟨rfl, by rw [hU], by rw [hU]; exact hPc, va_K.moved hW.alike hKc, hDc.weaken (fun _ _ _ _ => trivial)⟩⟩ rfl rfl hl.1 rfl (lv_room (Nat.le_of_ble_eq_true rfl)) dX4_moveByAddress_62 ⟨Nat.le_of_ble_eq_true rfl, Nat.le_of_ble_eq_true rfl⟩) hS (fun q _ h => hFc q h) hFc (fun u9 t H1 locs ht hvm hw hB hz1 hk1 hS => ?_)
        subst hw
        obtain ⟨hP1, hK1, hD1⟩ := hB
        rw [ht] at hP1
        obtain ⟨hP, hD⟩ := jP_S_mS hP hD hk1 hFc hP1 hD1
        clear hPc hDc hKc hFc hz1 hk1 hP1 hK1 hD1 ht hvm
        generalize H1 = H at hP hS ⊢
        refine lv_bipush (v := 7) hx hb dX4_moveByAddress_65 (by decide) ?_
        exact W.iret (v := 7) hx hb hr (fun t ht hW => ⟨⟨7, (sPW_m u (f_X5_setByte (gPW_m u) (f_X4_pair u (a1 >>> ((1 : Int32) &&& 31))) ((gPW_P_r u) (7 : Int32).toNatClampNeg))), rfl, ⟨(by simp only [f_X4_moveByAddress, if_neg c1, if_neg c2, if_pos c3]), (by simp only [f_X4_moveByAddress, if_neg c1, if_neg c2, if_pos c3])⟩, by rw [ht]; exact hP, va_K.moved hW.alike hK, hD⟩, hS.F ht⟩) hS.2.2 dX4_moveByAddress_67
      · skip
        by_cases c4 : a1 = 3
        · refine tb_in (k := 3) (off := 67) (tgt := 68) hx hb dX4_moveByAddress_1 c4 (by decide) (by decide) (by decide) (by decide) ?_
          refine lv_aload_n hx hb dX4_moveByAddress_68 rfl (lv_at hl 0 rfl) ?_
          refine va_get (D := (dC, dI)) (ci := 4) (v := .ref rA) (C := RX4) (T := TX4) (N := 13) hx hb hts iX4_moveByAddress_X4 hown hK hP 0 rfl rfl 5 (by decide) (hts _ qX4_moveByAddress_0) (fun _ h9 => h9) rfl dX4_moveByAddress_69 ?_
          refine lv_bipush (v := 7) hx hb dX4_moveByAddress_72 (by decide) ?_
          refine lv_aload_n hx hb dX4_moveByAddress_74 rfl (lv_at hl 0 rfl) ?_
          refine va_get (D := (dC, dI)) (ci := 4) (v := .ref mS) (C := RX4) (T := TX4) (N := 13) hx hb hts iX4_moveByAddress_X4 hown hK hP 0 rfl rfl 0 (by decide) (hts _ qX4_moveByAddress_1) (fun _ h9 => h9) rfl dX4_moveByAddress_75 ?_
          refine lv_aload_n hx hb dX4_moveByAddress_78 rfl (lv_at hl 0 rfl) ?_
          refine lv_iload_n hx hb dX4_moveByAddress_79 rfl (lv_at hl 1 rfl) ?_
          refine lv_iconst (v := 1) hx hb dX4_moveByAddress_80 (by decide) ?_
          refine lv_ishr hx hb dX4_moveByAddress_81 ?_
          obtain ⟨hPc, hDc, hFc⟩ := xP_P hP hD hS hA
          have hKc := hK.sub (tys' := [(cI, .int)]) [0] rfl
          refine va_calli (va_runV (As := [.int (a1 >>> ((1 : Int32) &&& 31))]) (rest := [.ref mS, .int 7, .ref rA]) ⟨hx, hb, hml, hown, hts⟩ (k_X4_pair l dC dI cI pO mS mA dS dA cO iA oA kO fO aO rA H.size u (a1 >>> ((1 : Int32) &&& 31)) (in_shr1 h1)) (cwV 1 hts gX4_moveByAddress_X4_pair rfl rfl rfl (by decide +kernel) ⟨Nat.le_of_ble_eq_true rfl, Nat.le_of_ble_eq_true rfl⟩) ⟨fun a U g mk q => by obtain ⟨q0, q1, qP, qK, qD⟩ := q; exact ⟨q0, q1, qP, va_K.moved (u := U) (U := U.calling g mk a) (Vm.Alike.refl U.vm) qK, qD⟩, va_recv hKc hPc (ci := 4) (q0 := 0) rfl rfl, fun U hU hW => ⟨rfl, by rw [hU], by rw [hU]; exact hPc, va_K.moved hW.alike hKc, hDc.weaken (fun _ _ _ _ => trivial)⟩⟩ rfl rfl hl.1 rfl (lv_room (Nat.le_of_ble_eq_true rfl)) dX4_moveByAddress_82 ⟨Nat.le_of_ble_eq_true rfl, Nat.le_of_ble_eq_true rfl⟩) hS (fun q _ h => hFc q h) hFc (fun r9 u9 t H1 locs ht hvm hw hB hz1 hk1 hS => ?_)
          obtain ⟨hw1, hw2⟩ := hw
          have hw2 := hw2.symm
          subst hw1 hw2
          obtain ⟨hP1, hK1, hD1⟩ := hB
          rw [ht] at hP1
          obtain ⟨hP, hD⟩ := jP_P0 hP hD hk1 hFc hP1 hD1
          clear hPc hDc hKc hFc hz1 hk1 hP1 hK1 hD1 ht hvm
          generalize H1 = H at hP hS ⊢
          obtain ⟨hPc, hDc, hFc⟩ := xP_S_mS hP hD hS hA
          have hKc := hK.sub (tys' := [(cI, .int)]) [0] rfl
          refine va_calli (va_runV (As := [.int (f_X4_pair u (a1 >>> ((1 : Int32) &&& 31)))]) (rest := [.int 7, .ref rA]) ⟨hx, hb, hml, hown, hts⟩ (k_X5_byteAt l dC dI cI mS mA H.size (gPW_m u) (f_X4_pair u (a1 >>> ((1 : Int32) &&& 31)))) (cwV 1 hts gX4_moveByAddress_X5_byteAt rfl rfl rfl (by decide +kernel) ⟨Nat.le_of_ble_eq_true rfl, Nat.le_of_ble_eq_true rfl⟩) ⟨fun a U g mk q => by obtain ⟨q0, q1, qP, qK, qD⟩ := q; exact ⟨q0, q1, qP, va_K.moved (u := U) (U := U.calling g mk a) (Vm.Alike.refl U.vm) qK, qD⟩, va_recv hKc hPc (ci := 5) (q0 := 0) rfl rfl, fun U hU hW => ⟨rfl, by rw [hU], by rw [hU]; exact hPc, va_K.moved hW.alike hKc, hDc.weaken (fun _ _ _ _ => trivial)⟩⟩ rfl rfl hl.1 rfl (lv_room (Nat.le_of_ble_eq_true rfl)) dX4_moveByAddress_85 ⟨Nat.le_of_ble_eq_true rfl, Nat.le_of_ble_eq_true rfl⟩) hS (fun q _ h => hFc q h) hFc (fun r9 u9 t H1 locs ht hvm hw hB hz1 hk1 hS => ?_)
          obtain ⟨hw1, hw2⟩ := hw
          have hw2 := hw2.symm
          subst hw1 hw2
          obtain ⟨hP1, hK1, hD1⟩ := hB
          rw [ht] at hP1
          obtain ⟨hP, hD⟩ := jP_S_mS0 hP hD hk1 hFc hP1 hD1
          clear hPc hDc hKc hFc hz1 hk1 hP1 hK1 hD1 ht hvm
          generalize H1 = H at hP hS ⊢
          refine va_iast (f := (gPW_P_r u)) hx hb hK hP hD hS 11 0 rfl rfl (ix_lit (by decide)) dX4_moveByAddress_88 (fun H locs hP hD hS => ?_)
          obtain ⟨hP, hD⟩ := aP_rA hP hD
          refine lv_bipush (v := 7) hx hb dX4_moveByAddress_89 (by decide) ?_
          exact W.iret (v := 7) hx hb hr (fun t ht hW => ⟨⟨7, (sPW_P_r u (upd (gPW_P_r u) (7 : Int32).toNatClampNeg (f_X5_byteAt (gPW_m u) (f_X4_pair u (a1 >>> ((1 : Int32) &&& 31)))))), rfl, ⟨(by simp only [f_X4_moveByAddress, if_neg c1, if_neg c2, if_neg c3, if_pos c4]), (by simp only [f_X4_moveByAddress, if_neg c1, if_neg c2, if_neg c3, if_pos c4])⟩, by rw [ht]; exact hP, va_K.moved hW.alike hK, hD⟩, hS.F ht⟩) hS.2.2 dX4_moveByAddress_91
        · skip
          by_cases c5 : a1 = 4
          · refine tb_in (k := 4) (off := 91) (tgt := 92) hx hb dX4_moveByAddress_1 c5 (by decide) (by decide) (by decide) (by decide) ?_
            refine lv_aload_n hx hb dX4_moveByAddress_92 rfl (lv_at hl 0 rfl) ?_
            refine va_get (D := (dC, dI)) (ci := 4) (v := .ref mS) (C := RX4) (T := TX4) (N := 13) hx hb hts iX4_moveByAddress_X4 hown hK hP 0 rfl rfl 0 (by decide) (hts _ qX4_moveByAddress_1) (fun _ h9 => h9) rfl dX4_moveByAddress_93 ?_
            refine lv_aload_n hx hb dX4_moveByAddress_96 rfl (lv_at hl 0 rfl) ?_
            obtain ⟨hPc, hDc, hFc⟩ := xP_P hP hD hS hA
            have hKc := hK.sub (tys' := [(cI, .int)]) [0] rfl
            refine va_calli (va_runV (As := []) (rest := [.ref mS]) ⟨hx, hb, hml, hown, hts⟩ (k_X4_nextWord l dC dI cI pO mS mA dS dA cO iA oA kO fO aO rA H.size u) (cwV 0 hts gX4_moveByAddress_X4_nextWord rfl rfl rfl (by decide +kernel) ⟨Nat.le_of_ble_eq_true rfl, Nat.le_of_ble_eq_true rfl⟩) ⟨fun a U g mk q => by obtain ⟨q0, q1, qP, qK, qD⟩ := q; exact ⟨q0, q1, qP, va_K.moved (u := U) (U := U.calling g mk a) (Vm.Alike.refl U.vm) qK, qD⟩, va_recv hKc hPc (ci := 4) (q0 := 0) rfl rfl, fun U hU hW => ⟨rfl, by rw [hU], by rw [hU]; exact hPc, va_K.moved hW.alike hKc, hDc.weaken (fun _ _ _ _ => trivial)⟩⟩ rfl rfl hl.1 rfl (lv_room (Nat.le_of_ble_eq_true rfl)) dX4_moveByAddress_97 ⟨Nat.le_of_ble_eq_true rfl, Nat.le_of_ble_eq_true rfl⟩) hS (fun q _ h => hFc q h) hFc (fun r9 u9 t H1 locs ht hvm hw hB hz1 hk1 hS => ?_)
            obtain ⟨rfl, rfl⟩ := hw
            obtain ⟨hP1, hK1, hD1⟩ := hB
            rw [ht] at hP1
            obtain ⟨hP, hD⟩ := jP_P hP hD hk1 hFc hP1 hD1
            clear hPc hDc hKc hFc hz1 hk1 hP1 hK1 hD1 ht hvm
            generalize H1 = H at hP hS ⊢
            refine lv_aload_n hx hb dX4_moveByAddress_100 rfl (lv_at hl 0 rfl) ?_
            refine lv_iconst (v := 2) hx hb dX4_moveByAddress_101 (by decide) ?_
            obtain ⟨hPc, hDc, hFc⟩ := xP_P hP hD hS hA
            have hKc := hK.sub (tys' := [(cI, .int)]) [0] rfl
            refine va_calli (va_runV (As := [.int 2]) (rest := [.int (f_X4_nextWord u).1, .ref mS]) ⟨hx, hb, hml, hown, hts⟩ (k_X4_pair l dC dI cI pO mS mA dS dA cO iA oA kO fO aO rA H.size (f_X4_nextWord u).2 2 (ix_lit (by decide))) (cwV 1 hts gX4_moveByAddress_X4_pair rfl rfl rfl (by decide +kernel) ⟨Nat.le_of_ble_eq_true rfl, Nat.le_of_ble_eq_true rfl⟩) ⟨fun a U g mk q => by obtain ⟨q0, q1, qP, qK, qD⟩ := q; exact ⟨q0, q1, qP, va_K.moved (u := U) (U := U.calling g mk a) (Vm.Alike.refl U.vm) qK, qD⟩, va_recv hKc hPc (ci := 4) (q0 := 0) rfl rfl, fun U hU hW => ⟨rfl, by rw [hU], by rw [hU]; exact hPc, va_K.moved hW.alike hKc, hDc.weaken (fun _ _ _ _ => trivial)⟩⟩ rfl rfl hl.1 rfl (lv_room (Nat.le_of_ble_eq_true rfl)) dX4_moveByAddress_102 ⟨Nat.le_of_ble_eq_true rfl, Nat.le_of_ble_eq_true rfl⟩) hS (fun q _ h => hFc q h) hFc (fun r9 u9 t H1 locs ht hvm hw hB hz1 hk1 hS => ?_)
            obtain ⟨hw1, hw2⟩ := hw
            have hw2 := hw2.symm
            subst hw1 hw2
            obtain ⟨hP1, hK1, hD1⟩ := hB
            rw [ht] at hP1
            obtain ⟨hP, hD⟩ := jP_P0 hP hD hk1 hFc hP1 hD1
            clear hPc hDc hKc hFc hz1 hk1 hP1 hK1 hD1 ht hvm
            generalize H1 = H at hP hS ⊢
            obtain ⟨hPc, hDc, hFc⟩ := xP_S_mS hP hD hS hA
            have hKc := hK.sub (tys' := [(cI, .int)]) [0] rfl
            refine va_callv (va_runV (As := [.int (f_X4_nextWord u).1, .int (f_X4_pair (f_X4_nextWord u).2 2)]) (rest := []) ⟨hx, hb, hml, hown, hts⟩ (k_X5_setWord l dC dI cI mS mA H.size (gPW_m (f_X4_nextWord u).2) (f_X4_nextWord u).1 (f_X4_pair (f_X4_nextWord u).2 2)) (cwV 2 hts gX4_moveByAddress_X5_setWord rfl rfl rfl (by decide +kernel) ⟨Nat.le_of_ble_eq_true rfl, Nat.le_of_ble_eq_true rfl⟩) ⟨fun a U g mk q => by obtain ⟨q0, q1, qP, qK, qD⟩ := q; exact ⟨q0, q1, qP, va_K.moved (u := U) (U := U.calling g mk a) (Vm.Alike.refl U.vm) qK, qD⟩, va_recv hKc hPc (ci := 5) (q0 := 0) rfl rfl, fun U hU hW => ⟨rfl, by rw [hU], by rw [hU]; exact hPc, va_K.moved hW.alike hKc, hDc.weaken (fun _ _ _ _ => trivial)⟩⟩ rfl rfl hl.1 rfl (lv_room (Nat.le_of_ble_eq_true rfl)) dX4_moveByAddress_105 ⟨Nat.le_of_ble_eq_true rfl, Nat.le_of_ble_eq_true rfl⟩) hS (fun q _ h => hFc q h) hFc (fun u9 t H1 locs ht hvm hw hB hz1 hk1 hS => ?_)
            subst hw
            obtain ⟨hP1, hK1, hD1⟩ := hB
            rw [ht] at hP1
            obtain ⟨hP, hD⟩ := jP_S_mS hP hD hk1 hFc hP1 hD1
            clear hPc hDc hKc hFc hz1 hk1 hP1 hK1 hD1 ht hvm
            generalize H1 = H at hP hS ⊢
            refine lv_bipush (v := 16) hx hb dX4_moveByAddress_108 (by decide) ?_
            exact W.iret (v := 16) hx hb hr (fun t ht hW => ⟨⟨16, (sPW_m (f_X4_nextWord u).2 (f_X5_setWord (gPW_m (f_X4_nextWord u).2) (f_X4_nextWord u).1 (f_X4_pair (f_X4_nextWord u).2 2))), rfl, ⟨(by simp only [f_X4_moveByAddress, if_neg c1, if_neg c2, if_neg c3, if_neg c4, if_pos c5]), (by simp only [f_X4_moveByAddress, if_neg c1, if_neg c2, if_neg c3, if_neg c4, if_pos c5])⟩, by rw [ht]; exact hP, va_K.moved hW.alike hK, hD⟩, hS.F ht⟩) hS.2.2 dX4_moveByAddress_110
          · skip
            by_cases c6 : a1 = 5
            · refine tb_in (k := 5) (off := 110) (tgt := 111) hx hb dX4_moveByAddress_1 c6 (by decide) (by decide) (by decide) (by decide) ?_
              refine lv_aload_n hx hb dX4_moveByAddress_111 rfl (lv_at hl 0 rfl) ?_
              refine lv_iconst (v := 2) hx hb dX4_moveByAddress_112 (by decide) ?_
              refine lv_aload_n hx hb dX4_moveByAddress_113 rfl (lv_at hl 0 rfl) ?_
              refine va_get (D := (dC, dI)) (ci := 4) (v := .ref mS) (C := RX4) (T := TX4) (N := 13) hx hb hts iX4_moveByAddress_X4 hown hK hP 0 rfl rfl 0 (by decide) (hts _ qX4_moveByAddress_1) (fun _ h9 => h9) rfl dX4_moveByAddress_114 ?_
              refine lv_aload_n hx hb dX4_moveByAddress_117 rfl (lv_at hl 0 rfl) ?_
              obtain ⟨hPc, hDc, hFc⟩ := xP_P hP hD hS hA
              have hKc := hK.sub (tys' := [(cI, .int)]) [0] rfl
              refine va_calli (va_runV (As := []) (rest := [.ref mS, .int 2, .ref pO]) ⟨hx, hb, hml, hown, hts⟩ (k_X4_nextWord l dC dI cI pO mS mA dS dA cO iA oA kO fO aO rA H.size u) (cwV 0 hts gX4_moveByAddress_X4_nextWord rfl rfl rfl (by decide +kernel) ⟨Nat.le_of_ble_eq_true rfl, Nat.le_of_ble_eq_true rfl⟩) ⟨fun a U g mk q => by obtain ⟨q0, q1, qP, qK, qD⟩ := q; exact ⟨q0, q1, qP, va_K.moved (u := U) (U := U.calling g mk a) (Vm.Alike.refl U.vm) qK, qD⟩, va_recv hKc hPc (ci := 4) (q0 := 0) rfl rfl, fun U hU hW => ⟨rfl, by rw [hU], by rw [hU]; exact hPc, va_K.moved hW.alike hKc, hDc.weaken (fun _ _ _ _ => trivial)⟩⟩ rfl rfl hl.1 rfl (lv_room (Nat.le_of_ble_eq_true rfl)) dX4_moveByAddress_118 ⟨Nat.le_of_ble_eq_true rfl, Nat.le_of_ble_eq_true rfl⟩) hS (fun q _ h => hFc q h) hFc (fun r9 u9 t H1 locs ht hvm hw hB hz1 hk1 hS => ?_)
              obtain ⟨rfl, rfl⟩ := hw
              obtain ⟨hP1, hK1, hD1⟩ := hB
              rw [ht] at hP1
              obtain ⟨hP, hD⟩ := jP_P hP hD hk1 hFc hP1 hD1
              clear hPc hDc hKc hFc hz1 hk1 hP1 hK1 hD1 ht hvm
              generalize H1 = H at hP hS ⊢
              obtain ⟨hPc, hDc, hFc⟩ := xP_S_mS hP hD hS hA
              have hKc := hK.sub (tys' := [(cI, .int)]) [0] rfl
              refine va_calli (va_runV (As := [.int (f_X4_nextWord u).1]) (rest := [.int 2, .ref pO]) ⟨hx, hb, hml, hown, hts⟩ (k_X5_wordAt l dC dI cI mS mA H.size (gPW_m (f_X4_nextWord u).2) (f_X4_nextWord u).1) (cwV 1 hts gX4_moveByAddress_X5_wordAt rfl rfl rfl (by decide +kernel) ⟨Nat.le_of_ble_eq_true rfl, Nat.le_of_ble_eq_true rfl⟩) ⟨fun a U g mk q => by obtain ⟨q0, q1, qP, qK, qD⟩ := q; exact ⟨q0, q1, qP, va_K.moved (u := U) (U := U.calling g mk a) (Vm.Alike.refl U.vm) qK, qD⟩, va_recv hKc hPc (ci := 5) (q0 := 0) rfl rfl, fun U hU hW => ⟨rfl, by rw [hU], by rw [hU]; exact hPc, va_K.moved hW.alike hKc, hDc.weaken (fun _ _ _ _ => trivial)⟩⟩ rfl rfl hl.1 rfl (lv_room (Nat.le_of_ble_eq_true rfl)) dX4_moveByAddress_121 ⟨Nat.le_of_ble_eq_true rfl, Nat.le_of_ble_eq_true rfl⟩) hS (fun q _ h => hFc q h) hFc (fun r9 u9 t H1 locs ht hvm hw hB hz1 hk1 hS => ?_)
              obtain ⟨hw1, hw2⟩ := hw
              have hw2 := hw2.symm
              subst hw1 hw2
              obtain ⟨hP1, hK1, hD1⟩ := hB
              rw [ht] at hP1
              obtain ⟨hP, hD⟩ := jP_S_mS0 hP hD hk1 hFc hP1 hD1
              clear hPc hDc hKc hFc hz1 hk1 hP1 hK1 hD1 ht hvm
              generalize H1 = H at hP hS ⊢
              obtain ⟨hPc, hDc, hFc⟩ := xP_P hP hD hS hA
              have hKc := hK.sub (tys' := [(cI, .int)]) [0] rfl
              refine va_callv (va_runV (As := [.int 2, .int (f_X5_wordAt (gPW_m (f_X4_nextWord u).2) (f_X4_nextWord u).1)]) (rest := []) ⟨hx, hb, hml, hown, hts⟩ (k_X4_setPair l dC dI cI pO mS mA dS dA cO iA oA kO fO aO rA H.size (f_X4_nextWord u).2 2 (f_X5_wordAt (gPW_m (f_X4_nextWord u).2) (f_X4_nextWord u).1) (ix_lit (by decide))) (cwV 2 hts gX4_moveByAddress_X4_setPair rfl rfl rfl (by decide +kernel) ⟨Nat.le_of_ble_eq_true rfl, Nat.le_of_ble_eq_true rfl⟩) ⟨fun a U g mk q => by obtain ⟨q0, q1, qP, qK, qD⟩ := q; exact ⟨q0, q1, qP, va_K.moved (u := U) (U := U.calling g mk a) (Vm.Alike.refl U.vm) qK, qD⟩, va_recv hKc hPc (ci := 4) (q0 := 0) rfl rfl, fun U hU hW => ⟨rfl, by rw [hU], by rw [hU]; exact hPc, va_K.moved hW.alike hKc, hDc.weaken (fun _ _ _ _ => trivial)⟩⟩ rfl rfl hl.1 rfl (lv_room (Nat.le_of_ble_eq_true rfl)) dX4_moveByAddress_124 ⟨Nat.le_of_ble_eq_true rfl, Nat.le_of_ble_eq_true rfl⟩) hS (fun q _ h => hFc q h) hFc (fun u9 t H1 locs ht hvm hw hB hz1 hk1 hS => ?_)
              subst hw
              obtain ⟨hP1, hK1, hD1⟩ := hB
              rw [ht] at hP1
              obtain ⟨hP, hD⟩ := jP_P hP hD hk1 hFc hP1 hD1
              clear hPc hDc hKc hFc hz1 hk1 hP1 hK1 hD1 ht hvm
              generalize H1 = H at hP hS ⊢
              refine lv_bipush (v := 16) hx hb dX4_moveByAddress_127 (by decide) ?_
              exact W.iret (v := 16) hx hb hr (fun t ht hW => ⟨⟨16, (f_X4_setPair (f_X4_nextWord u).2 2 (f_X5_wordAt (gPW_m (f_X4_nextWord u).2) (f_X4_nextWord u).1)), rfl, ⟨(by simp only [f_X4_moveByAddress, if_neg c1, if_neg c2, if_neg c3, if_neg c4, if_neg c5, if_pos c6]), (by simp only [f_X4_moveByAddress, if_neg c1, if_neg c2, if_neg c3, if_neg c4, if_neg c5, if_pos c6])⟩, by rw [ht]; exact hP, va_K.moved hW.alike hK, hD⟩, hS.F ht⟩) hS.2.2 dX4_moveByAddress_129
            · skip
              by_cases c7 : a1 = 6
              · refine tb_in (k := 6) (off := 129) (tgt := 130) hx hb dX4_moveByAddress_1 c7 (by decide) (by decide) (by decide) (by decide) ?_
                refine lv_aload_n hx hb dX4_moveByAddress_130 rfl (lv_at hl 0 rfl) ?_
                refine va_get (D := (dC, dI)) (ci := 4) (v := .ref mS) (C := RX4) (T := TX4) (N := 13) hx hb hts iX4_moveByAddress_X4 hown hK hP 0 rfl rfl 0 (by decide) (hts _ qX4_moveByAddress_1) (fun _ h9 => h9) rfl dX4_moveByAddress_131 ?_
                refine lv_aload_n hx hb dX4_moveByAddress_134 rfl (lv_at hl 0 rfl) ?_
                obtain ⟨hPc, hDc, hFc⟩ := xP_P hP hD hS hA
                have hKc := hK.sub (tys' := [(cI, .int)]) [0] rfl
                refine va_calli (va_runV (As := []) (rest := [.ref mS]) ⟨hx, hb, hml, hown, hts⟩ (k_X4_nextWord l dC dI cI pO mS mA dS dA cO iA oA kO fO aO rA H.size u) (cwV 0 hts gX4_moveByAddress_X4_nextWord rfl rfl rfl (by decide +kernel) ⟨Nat.le_of_ble_eq_true rfl, Nat.le_of_ble_eq_true rfl⟩) ⟨fun a U g mk q => by obtain ⟨q0, q1, qP, qK, qD⟩ := q; exact ⟨q0, q1, qP, va_K.moved (u := U) (U := U.calling g mk a) (Vm.Alike.refl U.vm) qK, qD⟩, va_recv hKc hPc (ci := 4) (q0 := 0) rfl rfl, fun U hU hW => ⟨rfl, by rw [hU], by rw [hU]; exact hPc, va_K.moved hW.alike hKc, hDc.weaken (fun _ _ _ _ => trivial)⟩⟩ rfl rfl hl.1 rfl (lv_room (Nat.le_of_ble_eq_true rfl)) dX4_moveByAddress_135 ⟨Nat.le_of_ble_eq_true rfl, Nat.le_of_ble_eq_true rfl⟩) hS (fun q _ h => hFc q h) hFc (fun r9 u9 t H1 locs ht hvm hw hB hz1 hk1 hS => ?_)
                obtain ⟨rfl, rfl⟩ := hw
                obtain ⟨hP1, hK1, hD1⟩ := hB
                rw [ht] at hP1
                obtain ⟨hP, hD⟩ := jP_P hP hD hk1 hFc hP1 hD1
                clear hPc hDc hKc hFc hz1 hk1 hP1 hK1 hD1 ht hvm
                generalize H1 = H at hP hS ⊢
                refine lv_aload_n hx hb dX4_moveByAddress_138 rfl (lv_at hl 0 rfl) ?_
                refine va_get (D := (dC, dI)) (ci := 4) (v := .ref rA) (C := RX4) (T := TX4) (N := 13) hx hb hts iX4_moveByAddress_X4 hown hK hP 0 rfl rfl 5 (by decide) (hts _ qX4_moveByAddress_0) (fun _ h9 => h9) rfl dX4_moveByAddress_139 ?_
                refine lv_bipush (v := 7) hx hb dX4_moveByAddress_142 (by decide) ?_
                refine va_iald (f := (gPW_P_r (f_X4_nextWord u).2)) hx hb hK hP 11 0 rfl rfl (ix_lit (by decide)) dX4_moveByAddress_144 ?_
                obtain ⟨hPc, hDc, hFc⟩ := xP_S_mS hP hD hS hA
                have hKc := hK.sub (tys' := [(cI, .int)]) [0] rfl
                refine va_callv (va_runV (As := [.int (f_X4_nextWord u).1, .int ((gPW_P_r (f_X4_nextWord u).2) (7 : Int32).toNatClampNeg)]) (rest := []) ⟨hx, hb, hml, hown, hts⟩ (k_X5_setByte l dC dI cI mS mA H.size (gPW_m (f_X4_nextWord u).2) (f_X4_nextWord u).1 ((gPW_P_r (f_X4_nextWord u).2) (7 : Int32).toNatClampNeg)) (cwV 2 hts gX4_moveByAddress_X5_setByte rfl rfl rfl (by decide +kernel) ⟨Nat.le_of_ble_eq_true rfl, Nat.le_of_ble_eq_true rfl⟩) ⟨fun a U g mk q => by obtain ⟨q0, q1, qP, qK, qD⟩ := q; exact ⟨q0, q1, qP, va_K.moved (u := U) (U := U.calling g mk a) (Vm.Alike.refl U.vm) qK, qD⟩, va_recv hKc hPc (ci := 5) (q0 := 0) rfl rfl, fun U hU hW => ⟨rfl, by rw [hU], by rw [hU]; exact hPc, va_K.moved hW.alike hKc, hDc.weaken (fun _ _ _ _ => trivial)⟩⟩ rfl rfl hl.1 rfl (lv_room (Nat.le_of_ble_eq_true rfl)) dX4_moveByAddress_145 ⟨Nat.le_of_ble_eq_true rfl, Nat.le_of_ble_eq_true rfl⟩) hS (fun q _ h => hFc q h) hFc (fun u9 t H1 locs ht hvm hw hB hz1 hk1 hS => ?_)
                subst hw
                obtain ⟨hP1, hK1, hD1⟩ := hB
                rw [ht] at hP1
                obtain ⟨hP, hD⟩ := jP_S_mS hP hD hk1 hFc hP1 hD1
                clear hPc hDc hKc hFc hz1 hk1 hP1 hK1 hD1 ht hvm
                generalize H1 = H at hP hS ⊢
                refine lv_bipush (v := 13) hx hb dX4_moveByAddress_148 (by decide) ?_
                exact W.iret (v := 13) hx hb hr (fun t ht hW => ⟨⟨13, (sPW_m (f_X4_nextWord u).2 (f_X5_setByte (gPW_m (f_X4_nextWord u).2) (f_X4_nextWord u).1 ((gPW_P_r (f_X4_nextWord u).2) (7 : Int32).toNatClampNeg))), rfl, ⟨(by simp only [f_X4_moveByAddress, if_neg c1, if_neg c2, if_neg c3, if_neg c4, if_neg c5, if_neg c6, if_pos c7]), (by simp only [f_X4_moveByAddress, if_neg c1, if_neg c2, if_neg c3, if_neg c4, if_neg c5, if_neg c6, if_pos c7])⟩, by rw [ht]; exact hP, va_K.moved hW.alike hK, hD⟩, hS.F ht⟩) hS.2.2 dX4_moveByAddress_150
              · skip
                refine lv_tableOut (tgt := 151) hx hb dX4_moveByAddress_1 (by have r0 := lv_neT c1 (a := 0) (by decide); have r1 := lv_neT c2 (a := 1) (by decide); have r2 := lv_neT c3 (a := 2) (by decide); have r3 := lv_neT c4 (a := 3) (by decide); have r4 := lv_neT c5 (a := 4) (by decide); have r5 := lv_neT c6 (a := 5) (by decide); have r6 := lv_neT c7 (a := 6) (by decide); omega) (by decide) ?_
                refine lv_aload_n hx hb dX4_moveByAddress_151 rfl (lv_at hl 0 rfl) ?_
                refine va_get (D := (dC, dI)) (ci := 4) (v := .ref rA) (C := RX4) (T := TX4) (N := 13) hx hb hts iX4_moveByAddress_X4 hown hK hP 0 rfl rfl 5 (by decide) (hts _ qX4_moveByAddress_0) (fun _ h9 => h9) rfl dX4_moveByAddress_152 ?_
                refine lv_bipush (v := 7) hx hb dX4_moveByAddress_155 (by decide) ?_
                refine lv_aload_n hx hb dX4_moveByAddress_157 rfl (lv_at hl 0 rfl) ?_
                refine va_get (D := (dC, dI)) (ci := 4) (v := .ref mS) (C := RX4) (T := TX4) (N := 13) hx hb hts iX4_moveByAddress_X4 hown hK hP 0 rfl rfl 0 (by decide) (hts _ qX4_moveByAddress_1) (fun _ h9 => h9) rfl dX4_moveByAddress_158 ?_
                refine lv_aload_n hx hb dX4_moveByAddress_161 rfl (lv_at hl 0 rfl) ?_
                obtain ⟨hPc, hDc, hFc⟩ := xP_P hP hD hS hA
                have hKc := hK.sub (tys' := [(cI, .int)]) [0] rfl
                refine va_calli (va_runV (As := []) (rest := [.ref mS, .int 7, .ref rA]) ⟨hx, hb, hml, hown, hts⟩ (k_X4_nextWord l dC dI cI pO mS mA dS dA cO iA oA kO fO aO rA H.size u) (cwV 0 hts gX4_moveByAddress_X4_nextWord rfl rfl rfl (by decide +kernel) ⟨Nat.le_of_ble_eq_true rfl, Nat.le_of_ble_eq_true rfl⟩) ⟨fun a U g mk q => by obtain ⟨q0, q1, qP, qK, qD⟩ := q; exact ⟨q0, q1, qP, va_K.moved (u := U) (U := U.calling g mk a) (Vm.Alike.refl U.vm) qK, qD⟩, va_recv hKc hPc (ci := 4) (q0 := 0) rfl rfl, fun U hU hW => ⟨rfl, by rw [hU], by rw [hU]; exact hPc, va_K.moved hW.alike hKc, hDc.weaken (fun _ _ _ _ => trivial)⟩⟩ rfl rfl hl.1 rfl (lv_room (Nat.le_of_ble_eq_true rfl)) dX4_moveByAddress_162 ⟨Nat.le_of_ble_eq_true rfl, Nat.le_of_ble_eq_true rfl⟩) hS (fun q _ h => hFc q h) hFc (fun r9 u9 t H1 locs ht hvm hw hB hz1 hk1 hS => ?_)
                obtain ⟨rfl, rfl⟩ := hw
                obtain ⟨hP1, hK1, hD1⟩ := hB
                rw [ht] at hP1
                obtain ⟨hP, hD⟩ := jP_P hP hD hk1 hFc hP1 hD1
                clear hPc hDc hKc hFc hz1 hk1 hP1 hK1 hD1 ht hvm
                generalize H1 = H at hP hS ⊢
                obtain ⟨hPc, hDc, hFc⟩ := xP_S_mS hP hD hS hA
                have hKc := hK.sub (tys' := [(cI, .int)]) [0] rfl
                refine va_calli (va_runV (As := [.int (f_X4_nextWord u).1]) (rest := [.int 7, .ref rA]) ⟨hx, hb, hml, hown, hts⟩ (k_X5_byteAt l dC dI cI mS mA H.size (gPW_m (f_X4_nextWord u).2) (f_X4_nextWord u).1) (cwV 1 hts gX4_moveByAddress_X5_byteAt rfl rfl rfl (by decide +kernel) ⟨Nat.le_of_ble_eq_true rfl, Nat.le_of_ble_eq_true rfl⟩) ⟨fun a U g mk q => by obtain ⟨q0, q1, qP, qK, qD⟩ := q; exact ⟨q0, q1, qP, va_K.moved (u := U) (U := U.calling g mk a) (Vm.Alike.refl U.vm) qK, qD⟩, va_recv hKc hPc (ci := 5) (q0 := 0) rfl rfl, fun U hU hW => ⟨rfl, by rw [hU], by rw [hU]; exact hPc, va_K.moved hW.alike hKc, hDc.weaken (fun _ _ _ _ => trivial)⟩⟩ rfl rfl hl.1 rfl (lv_room (Nat.le_of_ble_eq_true rfl)) dX4_moveByAddress_165 ⟨Nat.le_of_ble_eq_true rfl, Nat.le_of_ble_eq_true rfl⟩) hS (fun q _ h => hFc q h) hFc (fun r9 u9 t H1 locs ht hvm hw hB hz1 hk1 hS => ?_)
                obtain ⟨hw1, hw2⟩ := hw
                have hw2 := hw2.symm
                subst hw1 hw2
                obtain ⟨hP1, hK1, hD1⟩ := hB
                rw [ht] at hP1
                obtain ⟨hP, hD⟩ := jP_S_mS0 hP hD hk1 hFc hP1 hD1
                clear hPc hDc hKc hFc hz1 hk1 hP1 hK1 hD1 ht hvm
                generalize H1 = H at hP hS ⊢
                refine va_iast (f := (gPW_P_r (f_X4_nextWord u).2)) hx hb hK hP hD hS 11 0 rfl rfl (ix_lit (by decide)) dX4_moveByAddress_168 (fun H locs hP hD hS => ?_)
                obtain ⟨hP, hD⟩ := aP_rA hP hD
                refine lv_bipush (v := 13) hx hb dX4_moveByAddress_169 (by decide) ?_
                exact W.iret (v := 13) hx hb hr (fun t ht hW => ⟨⟨13, (sPW_P_r (f_X4_nextWord u).2 (upd (gPW_P_r (f_X4_nextWord u).2) (7 : Int32).toNatClampNeg (f_X5_byteAt (gPW_m (f_X4_nextWord u).2) (f_X4_nextWord u).1))), rfl, ⟨(by simp only [f_X4_moveByAddress, if_neg c1, if_neg c2, if_neg c3, if_neg c4, if_neg c5, if_neg c6, if_neg c7]), (by simp only [f_X4_moveByAddress, if_neg c1, if_neg c2, if_neg c3, if_neg c4, if_neg c5, if_neg c6, if_neg c7])⟩, by rw [ht]; exact hP, va_K.moved hW.alike hK, hD⟩, hS.F ht⟩) hS.2.2 dX4_moveByAddress_171

def f_X4_transfer (u : PW) (a1 : Int32) (a2 : Int32) : Int32 × PW := 
  if a1 = (6 : Int32) then 
    if a2 = (6 : Int32) then (7, (sPW_P_hlt u true))
    else ((if a1 = (6 : Int32) then 7 else (if a2 = (6 : Int32) then 7 else 5 : Int32) : Int32), (f_X4_setValue u a1 (f_X4_value u a2)))
  else ((if a1 = (6 : Int32) then 7 else (if a2 = (6 : Int32) then 7 else 5 : Int32) : Int32), (f_X4_setValue u a1 (f_X4_value u a2)))
theorem qX4_transfer_0 : Cond.fieldLink RX4 62 "DiskMachine$Processor" "halted" "Z" ∈ wsX4_transfer := by decide +kernel
theorem iX4_transfer_X4 : ∀ w ∈ wsX40, w ∈ wsX4_transfer := by decide +kernel
set_option maxHeartbeats 4000000 in
set_option maxRecDepth 100000 in
theorem k_X4_transfer (l : Launch) (dC : Nat → ClassId) (dI : Nat → Nat → Nat) (cI : ClassId) (pO mS mA dS dA cO iA oA kO fO aO rA : Nat) (sz : Nat) (u : PW) (a1 : Int32) (a2 : Int32) (h1 : vp_in a1 8) (h2 : vp_in a2 8) : Met l yX4_transfer wsX4_transfer ({ frames := 2, cells := 0, slots := 0, locals := 44 }) (va_Pc [.ref pO, .int a1, .int a2] (wB dC dI [(cI, .int)] sz (wP cI pO mS mA dS dA cO iA oA kO fO aO rA u))) (va_Qi (fun (r : Int32) (u' : PW) => r = (f_X4_transfer u a1 a2).1 ∧ u' = (f_X4_transfer u a1 a2).2) (fun u' => wE dC dI [(cI, .int)] (va_A (wP cI pO mS mA dS dA cO iA oA kO fO aO rA u) sz) (wP cI pO mS mA dS dA cO iA oA kO fO aO rA u')) (va_A (wP cI pO mS mA dS dA cO iA oA kO fO aO rA u) sz)) 0 0 (va_A (wP cI pO mS mA dS dA cO iA oA kO fO aO rA u) sz) := by
  refine Met.ofW (cc := cX4_transfer) (maxL := 3) (ret := (some .int)) (by decide) rfl ?_
  intro p e s m args below meth c s₁ B hml hv
  obtain ⟨rfl, hsz, hP, hK, hD0⟩ := hv
  have hx := B.exec
  have hb := B.bytes
  have hr := B.returns
  have hts := atoms_spec (ws := wsX4_transfer) B.pre
  have hown : s.vm.findClass RX4 = some m.cls := findClass_of_methodNamed B.named
  have hlocks := B.notSynchronized
  subst hsz
  have hD := hD0.self (sz := s.heap.size)
  generalize hAe : va_A (wP cI pO mS mA dS dA cO iA oA kO fO aO rA u) s.heap.size = A at hD ⊢
  have hA : ∀ q : Nat, s.heap.size ≤ q → A q := fun q h => by rw [← hAe]; exact Or.inr h
  have hS : va_S A s.heap s.heap [] := va_S.rf
  have hP : va_P (dC, dI) vwCl (wP cI pO mS mA dS dA cO iA oA kO fO aO rA u) s.heap := hP
  clear hAe hD0
  have hl := lv_entry ([.ref pO, .int a1, .int a2]) (n := 3) (Nat.le_of_ble_eq_true rfl)
  rw [lg_entry_eq]
  generalize (lg_sl ([.ref pO, .int a1, .int a2]) ++ List.replicate (3 - (lg_sl ([.ref pO, .int a1, .int a2])).length) Slot.unset).toArray = ls at hl ⊢
  have hl : lv_has ls 3 [(0, .ref pO), (1, .int a1), (2, .int a2)] := hl
  refine jn_H hP hS (fun H locs hP hS => ?_)
  refine lv_iload_n hx hb dX4_transfer_0 rfl (lv_at hl 1 rfl) ?_
  refine lv_bipush (v := 6) hx hb dX4_transfer_1 (by decide) ?_
  refine lv_icmp_ne (tgt := 20) hx hb dX4_transfer_3 (by decide) (fun c1 => ?_) (fun c1 => ?_)
  · skip
    refine lv_aload_n hx hb dX4_transfer_20 rfl (lv_at hl 0 rfl) ?_
    refine lv_iload_n hx hb dX4_transfer_21 rfl (lv_at hl 1 rfl) ?_
    refine lv_aload_n hx hb dX4_transfer_22 rfl (lv_at hl 0 rfl) ?_
    refine lv_iload_n hx hb dX4_transfer_23 rfl (lv_at hl 2 rfl) ?_
    obtain ⟨hPc, hDc, hFc⟩ := xP_P hP hD hS hA
    have hKc := hK.sub (tys' := [(cI, .int)]) [0] rfl
    refine va_calli (va_runV (As := [.int a2]) (rest := [.int a1, .ref pO]) ⟨hx, hb, hml, hown, hts⟩ (k_X4_value l dC dI cI pO mS mA dS dA cO iA oA kO fO aO rA H.size u a2 h2) (cwV 1 hts gX4_transfer_X4_value rfl rfl rfl (by decide +kernel) ⟨Nat.le_of_ble_eq_true rfl, Nat.le_of_ble_eq_true rfl⟩) ⟨fun a U g mk q => by obtain ⟨q0, q1, qP, qK, qD⟩ := q; exact ⟨q0, q1, qP, va_K.moved (u := U) (U := U.calling g mk a) (Vm.Alike.refl U.vm) qK, qD⟩, va_recv hKc hPc (ci := 4) (q0 := 0) rfl rfl, fun U hU hW => ⟨rfl, by rw [hU], by rw [hU]; exact hPc, va_K.moved hW.alike hKc, hDc.weaken (fun _ _ _ _ => trivial)⟩⟩ rfl rfl hl.1 rfl (lv_room (Nat.le_of_ble_eq_true rfl)) dX4_transfer_24 ⟨Nat.le_of_ble_eq_true rfl, Nat.le_of_ble_eq_true rfl⟩) hS (fun q _ h => hFc q h) hFc (fun r9 u9 t H1 locs ht hvm hw hB hz1 hk1 hS => ?_)
    obtain ⟨hw1, hw2⟩ := hw
    have hw2 := hw2.symm
    subst hw1 hw2
    obtain ⟨hP1, hK1, hD1⟩ := hB
    rw [ht] at hP1
    obtain ⟨hP, hD⟩ := jP_P0 hP hD hk1 hFc hP1 hD1
    clear hPc hDc hKc hFc hz1 hk1 hP1 hK1 hD1 ht hvm
    generalize H1 = H at hP hS ⊢
    obtain ⟨hPc, hDc, hFc⟩ := xP_P hP hD hS hA
    have hKc := hK.sub (tys' := [(cI, .int)]) [0] rfl
    refine va_callv (va_runV (As := [.int a1, .int (f_X4_value u a2)]) (rest := []) ⟨hx, hb, hml, hown, hts⟩ (k_X4_setValue l dC dI cI pO mS mA dS dA cO iA oA kO fO aO rA H.size u a1 (f_X4_value u a2) h1) (cwV 2 hts gX4_transfer_X4_setValue rfl rfl rfl (by decide +kernel) ⟨Nat.le_of_ble_eq_true rfl, Nat.le_of_ble_eq_true rfl⟩) ⟨fun a U g mk q => by obtain ⟨q0, q1, qP, qK, qD⟩ := q; exact ⟨q0, q1, qP, va_K.moved (u := U) (U := U.calling g mk a) (Vm.Alike.refl U.vm) qK, qD⟩, va_recv hKc hPc (ci := 4) (q0 := 0) rfl rfl, fun U hU hW => ⟨rfl, by rw [hU], by rw [hU]; exact hPc, va_K.moved hW.alike hKc, hDc.weaken (fun _ _ _ _ => trivial)⟩⟩ rfl rfl hl.1 rfl (lv_room (Nat.le_of_ble_eq_true rfl)) dX4_transfer_27 ⟨Nat.le_of_ble_eq_true rfl, Nat.le_of_ble_eq_true rfl⟩) hS (fun q _ h => hFc q h) hFc (fun u9 t H1 locs ht hvm hw hB hz1 hk1 hS => ?_)
    subst hw
    obtain ⟨hP1, hK1, hD1⟩ := hB
    rw [ht] at hP1
    obtain ⟨hP, hD⟩ := jP_P hP hD hk1 hFc hP1 hD1
    clear hPc hDc hKc hFc hz1 hk1 hP1 hK1 hD1 ht hvm
    generalize H1 = H at hP hS ⊢
    refine lv_iload_n hx hb dX4_transfer_30 rfl (lv_at hl 1 rfl) ?_
    refine lv_bipush (v := 6) hx hb dX4_transfer_31 (by decide) ?_
    refine jn_i (D := (dC, dI)) (cl := vwCl) (ws := (wP cI pO mS mA dS dA cO iA oA kO fO aO rA (f_X4_setValue u a1 (f_X4_value u a2)))) (A := A) (H0 := s.heap) (nL := 3) 48 (if a1 = (6 : Int32) then 7 else (if a2 = (6 : Int32) then 7 else 5 : Int32) : Int32) [(0, .ref pO), (1, .int a1), (2, .int a2)] [] (fun H locs ls hP hS hl => ?_) (fun hJ2 => ?_)
    · skip
      exact W.iret (v := (if a1 = (6 : Int32) then 7 else (if a2 = (6 : Int32) then 7 else 5 : Int32) : Int32)) hx hb hr (fun t ht hW => ⟨⟨(if a1 = (6 : Int32) then 7 else (if a2 = (6 : Int32) then 7 else 5 : Int32) : Int32), (f_X4_setValue u a1 (f_X4_value u a2)), rfl, ⟨(by simp only [f_X4_transfer, if_neg c1]), (by simp only [f_X4_transfer, if_neg c1])⟩, by rw [ht]; exact hP, va_K.moved hW.alike hK, hD⟩, hS.F ht⟩) hS.2.2 dX4_transfer_48
    · skip
      refine lv_icmp_eq (tgt := 42) hx hb dX4_transfer_33 (by decide) (fun c3 => ?_) (fun c3 => ?_)
      · skip
        refine lv_bipush (v := 7) hx hb dX4_transfer_42 (by decide) ?_
        refine lv_goto (tgt := 48) hx hb dX4_transfer_44 (by decide) ?_
        exact hJ2 7 _ _ _ (by simp only [if_pos c3]) hP hS (lv_sub hl [0, 1, 2] rfl)
      · skip
        refine lv_iload_n hx hb dX4_transfer_36 rfl (lv_at hl 2 rfl) ?_
        refine lv_bipush (v := 6) hx hb dX4_transfer_37 (by decide) ?_
        refine jn_i (D := (dC, dI)) (cl := vwCl) (ws := (wP cI pO mS mA dS dA cO iA oA kO fO aO rA (f_X4_setValue u a1 (f_X4_value u a2)))) (A := A) (H0 := s.heap) (nL := 3) 48 (if a2 = (6 : Int32) then 7 else 5 : Int32) [(0, .ref pO), (1, .int a1), (2, .int a2)] [] (fun H locs ls hP hS hl => ?_) (fun hJ4 => ?_)
        · skip
          exact hJ2 (if a2 = (6 : Int32) then 7 else 5 : Int32) _ _ _ (by simp only [if_neg c3]) hP hS (lv_sub hl [0, 1, 2] rfl)
        · skip
          refine lv_icmp_ne (tgt := 47) hx hb dX4_transfer_39 (by decide) (fun c5 => ?_) (fun c5 => ?_)
          · skip
            refine lv_iconst (v := 5) hx hb dX4_transfer_47 (by decide) ?_
            exact hJ4 5 _ _ _ (by simp only [if_neg c5]) hP hS (lv_sub hl [0, 1, 2] rfl)
          · skip
            refine lv_bipush (v := 7) hx hb dX4_transfer_42 (by decide) ?_
            refine lv_goto (tgt := 48) hx hb dX4_transfer_44 (by decide) ?_
            exact hJ4 7 _ _ _ (by simp only [if_pos c5]) hP hS (lv_sub hl [0, 1, 2] rfl)
  · skip
    refine lv_iload_n hx hb dX4_transfer_6 rfl (lv_at hl 2 rfl) ?_
    refine lv_bipush (v := 6) hx hb dX4_transfer_7 (by decide) ?_
    refine lv_icmp_ne (tgt := 20) hx hb dX4_transfer_9 (by decide) (fun c6 => ?_) (fun c6 => ?_)
    · skip
      refine lv_aload_n hx hb dX4_transfer_20 rfl (lv_at hl 0 rfl) ?_
      refine lv_iload_n hx hb dX4_transfer_21 rfl (lv_at hl 1 rfl) ?_
      refine lv_aload_n hx hb dX4_transfer_22 rfl (lv_at hl 0 rfl) ?_
      refine lv_iload_n hx hb dX4_transfer_23 rfl (lv_at hl 2 rfl) ?_
      obtain ⟨hPc, hDc, hFc⟩ := xP_P hP hD hS hA
      have hKc := hK.sub (tys' := [(cI, .int)]) [0] rfl
      refine va_calli (va_runV (As := [.int a2]) (rest := [.int a1, .ref pO]) ⟨hx, hb, hml, hown, hts⟩ (k_X4_value l dC dI cI pO mS mA dS dA cO iA oA kO fO aO rA H.size u a2 h2) (cwV 1 hts gX4_transfer_X4_value rfl rfl rfl (by decide +kernel) ⟨Nat.le_of_ble_eq_true rfl, Nat.le_of_ble_eq_true rfl⟩) ⟨fun a U g mk q => by obtain ⟨q0, q1, qP, qK, qD⟩ := q; exact ⟨q0, q1, qP, va_K.moved (u := U) (U := U.calling g mk a) (Vm.Alike.refl U.vm) qK, qD⟩, va_recv hKc hPc (ci := 4) (q0 := 0) rfl rfl, fun U hU hW => ⟨rfl, by rw [hU], by rw [hU]; exact hPc, va_K.moved hW.alike hKc, hDc.weaken (fun _ _ _ _ => trivial)⟩⟩ rfl rfl hl.1 rfl (lv_room (Nat.le_of_ble_eq_true rfl)) dX4_transfer_24 ⟨Nat.le_of_ble_eq_true rfl, Nat.le_of_ble_eq_true rfl⟩) hS (fun q _ h => hFc q h) hFc (fun r9 u9 t H1 locs ht hvm hw hB hz1 hk1 hS => ?_)
      obtain ⟨hw1, hw2⟩ := hw
      have hw2 := hw2.symm
      subst hw1 hw2
      obtain ⟨hP1, hK1, hD1⟩ := hB
      rw [ht] at hP1
      obtain ⟨hP, hD⟩ := jP_P0 hP hD hk1 hFc hP1 hD1
      clear hPc hDc hKc hFc hz1 hk1 hP1 hK1 hD1 ht hvm
      generalize H1 = H at hP hS ⊢
      obtain ⟨hPc, hDc, hFc⟩ := xP_P hP hD hS hA
      have hKc := hK.sub (tys' := [(cI, .int)]) [0] rfl
      refine va_callv (va_runV (As := [.int a1, .int (f_X4_value u a2)]) (rest := []) ⟨hx, hb, hml, hown, hts⟩ (k_X4_setValue l dC dI cI pO mS mA dS dA cO iA oA kO fO aO rA H.size u a1 (f_X4_value u a2) h1) (cwV 2 hts gX4_transfer_X4_setValue rfl rfl rfl (by decide +kernel) ⟨Nat.le_of_ble_eq_true rfl, Nat.le_of_ble_eq_true rfl⟩) ⟨fun a U g mk q => by obtain ⟨q0, q1, qP, qK, qD⟩ := q; exact ⟨q0, q1, qP, va_K.moved (u := U) (U := U.calling g mk a) (Vm.Alike.refl U.vm) qK, qD⟩, va_recv hKc hPc (ci := 4) (q0 := 0) rfl rfl, fun U hU hW => ⟨rfl, by rw [hU], by rw [hU]; exact hPc, va_K.moved hW.alike hKc, hDc.weaken (fun _ _ _ _ => trivial)⟩⟩ rfl rfl hl.1 rfl (lv_room (Nat.le_of_ble_eq_true rfl)) dX4_transfer_27 ⟨Nat.le_of_ble_eq_true rfl, Nat.le_of_ble_eq_true rfl⟩) hS (fun q _ h => hFc q h) hFc (fun u9 t H1 locs ht hvm hw hB hz1 hk1 hS => ?_)
      subst hw
      obtain ⟨hP1, hK1, hD1⟩ := hB
      rw [ht] at hP1
      obtain ⟨hP, hD⟩ := jP_P hP hD hk1 hFc hP1 hD1
      clear hPc hDc hKc hFc hz1 hk1 hP1 hK1 hD1 ht hvm
      generalize H1 = H at hP hS ⊢
      refine lv_iload_n hx hb dX4_transfer_30 rfl (lv_at hl 1 rfl) ?_
      refine lv_bipush (v := 6) hx hb dX4_transfer_31 (by decide) ?_
      refine jn_i (D := (dC, dI)) (cl := vwCl) (ws := (wP cI pO mS mA dS dA cO iA oA kO fO aO rA (f_X4_setValue u a1 (f_X4_value u a2)))) (A := A) (H0 := s.heap) (nL := 3) 48 (if a1 = (6 : Int32) then 7 else (if a2 = (6 : Int32) then 7 else 5 : Int32) : Int32) [(0, .ref pO), (1, .int a1), (2, .int a2)] [] (fun H locs ls hP hS hl => ?_) (fun hJ7 => ?_)
      · skip
        exact W.iret (v := (if a1 = (6 : Int32) then 7 else (if a2 = (6 : Int32) then 7 else 5 : Int32) : Int32)) hx hb hr (fun t ht hW => ⟨⟨(if a1 = (6 : Int32) then 7 else (if a2 = (6 : Int32) then 7 else 5 : Int32) : Int32), (f_X4_setValue u a1 (f_X4_value u a2)), rfl, ⟨(by simp only [f_X4_transfer, if_pos c1, if_neg c6]), (by simp only [f_X4_transfer, if_pos c1, if_neg c6])⟩, by rw [ht]; exact hP, va_K.moved hW.alike hK, hD⟩, hS.F ht⟩) hS.2.2 dX4_transfer_48
      · skip
        refine lv_icmp_eq (tgt := 42) hx hb dX4_transfer_33 (by decide) (fun c8 => ?_) (fun c8 => ?_)
        · skip
          refine lv_bipush (v := 7) hx hb dX4_transfer_42 (by decide) ?_
          refine lv_goto (tgt := 48) hx hb dX4_transfer_44 (by decide) ?_
          exact hJ7 7 _ _ _ (by simp only [if_pos c8]) hP hS (lv_sub hl [0, 1, 2] rfl)
        · skip
          refine lv_iload_n hx hb dX4_transfer_36 rfl (lv_at hl 2 rfl) ?_
          refine lv_bipush (v := 6) hx hb dX4_transfer_37 (by decide) ?_
          refine jn_i (D := (dC, dI)) (cl := vwCl) (ws := (wP cI pO mS mA dS dA cO iA oA kO fO aO rA (f_X4_setValue u a1 (f_X4_value u a2)))) (A := A) (H0 := s.heap) (nL := 3) 48 (if a2 = (6 : Int32) then 7 else 5 : Int32) [(0, .ref pO), (1, .int a1), (2, .int a2)] [] (fun H locs ls hP hS hl => ?_) (fun hJ9 => ?_)
          · skip
            exact hJ7 (if a2 = (6 : Int32) then 7 else 5 : Int32) _ _ _ (by simp only [if_neg c8]) hP hS (lv_sub hl [0, 1, 2] rfl)
          · skip
            refine lv_icmp_ne (tgt := 47) hx hb dX4_transfer_39 (by decide) (fun c10 => ?_) (fun c10 => ?_)
            · skip
              refine lv_iconst (v := 5) hx hb dX4_transfer_47 (by decide) ?_
              exact hJ9 5 _ _ _ (by simp only [if_neg c10]) hP hS (lv_sub hl [0, 1, 2] rfl)
            · skip
              refine lv_bipush (v := 7) hx hb dX4_transfer_42 (by decide) ?_
              refine lv_goto (tgt := 48) hx hb dX4_transfer_44 (by decide) ?_
              exact hJ9 7 _ _ _ (by simp only [if_pos c10]) hP hS (lv_sub hl [0, 1, 2] rfl)
    · skip
      refine lv_aload_n hx hb dX4_transfer_12 rfl (lv_at hl 0 rfl) ?_
      refine lv_iconst (v := 1) hx hb dX4_transfer_13 (by decide) ?_
      refine va_put (D := (dC, dI)) (ci := 4) (v := .int (bI true)) (ty := .boolean) (C := RX4) (T := TX4) (N := 13) hx hb hts iX4_transfer_X4 tyX4 tyX4_ok nmX4 hown hK hP hD hS 0 rfl rfl 8 (by decide) (hts _ qX4_transfer_0) (fun _ h9 => h9) rfl (by decide +kernel) (bI_nar true) (bI_fit true) (Nat.le_of_ble_eq_true rfl) dX4_transfer_14 (fun H locs hP hD hS => ?_)
      obtain ⟨hP, hD⟩ := pP_P_hlt hP hD
      refine lv_bipush (v := 7) hx hb dX4_transfer_17 (by decide) ?_
      exact W.iret (v := 7) hx hb hr (fun t ht hW => ⟨⟨7, (sPW_P_hlt u true), rfl, ⟨(by simp only [f_X4_transfer, if_pos c1, if_pos c6]), (by simp only [f_X4_transfer, if_pos c1, if_pos c6])⟩, by rw [ht]; exact hP, va_K.moved hW.alike hK, hD⟩, hS.F ht⟩) hS.2.2 dX4_transfer_19

def f_X4_returnIf (u : PW) (a1 : Int32) : Int32 × PW := 
  if (bI (f_X3_holds (gPW_F u) a1)) = (0 : Int32) then (5, u)
  else (11, (sPW_P_pc (f_X4_pop u).2 (f_X4_pop u).1))
theorem qX4_returnIf_0 : Cond.fieldLink RX4 12 "DiskMachine$Processor" "flags" "LDiskMachine$Flags;" ∈ wsX4_returnIf := by decide +kernel
theorem qX4_returnIf_1 : Cond.fieldLink RX4 51 "DiskMachine$Processor" "pc" "I" ∈ wsX4_returnIf := by decide +kernel
theorem iX4_returnIf_X4 : ∀ w ∈ wsX40, w ∈ wsX4_returnIf := by decide +kernel
set_option maxHeartbeats 4000000 in
set_option maxRecDepth 100000 in
theorem k_X4_returnIf (l : Launch) (dC : Nat → ClassId) (dI : Nat → Nat → Nat) (cI : ClassId) (pO mS mA dS dA cO iA oA kO fO aO rA : Nat) (sz : Nat) (u : PW) (a1 : Int32) : Met l yX4_returnIf wsX4_returnIf ({ frames := 2, cells := 0, slots := 0, locals := 42 }) (va_Pc [.ref pO, .int a1] (wB dC dI [(cI, .int)] sz (wP cI pO mS mA dS dA cO iA oA kO fO aO rA u))) (va_Qi (fun (r : Int32) (u' : PW) => r = (f_X4_returnIf u a1).1 ∧ u' = (f_X4_returnIf u a1).2) (fun u' => wE dC dI [(cI, .int)] (va_A (wP cI pO mS mA dS dA cO iA oA kO fO aO rA u) sz) (wP cI pO mS mA dS dA cO iA oA kO fO aO rA u')) (va_A (wP cI pO mS mA dS dA cO iA oA kO fO aO rA u) sz)) 0 0 (va_A (wP cI pO mS mA dS dA cO iA oA kO fO aO rA u) sz) := by
  refine Met.ofW (cc := cX4_returnIf) (maxL := 2) (ret := (some .int)) (by decide) rfl ?_
  intro p e s m args below meth c s₁ B hml hv
  obtain ⟨rfl, hsz, hP, hK, hD0⟩ := hv
  have hx := B.exec
  have hb := B.bytes
  have hr := B.returns
  have hts := atoms_spec (ws := wsX4_returnIf) B.pre
  have hown : s.vm.findClass RX4 = some m.cls := findClass_of_methodNamed B.named
  have hlocks := B.notSynchronized
  subst hsz
  have hD := hD0.self (sz := s.heap.size)
  generalize hAe : va_A (wP cI pO mS mA dS dA cO iA oA kO fO aO rA u) s.heap.size = A at hD ⊢
  have hA : ∀ q : Nat, s.heap.size ≤ q → A q := fun q h => by rw [← hAe]; exact Or.inr h
  have hS : va_S A s.heap s.heap [] := va_S.rf
  have hP : va_P (dC, dI) vwCl (wP cI pO mS mA dS dA cO iA oA kO fO aO rA u) s.heap := hP
  clear hAe hD0
  have hl := lv_entry ([.ref pO, .int a1]) (n := 2) (Nat.le_of_ble_eq_true rfl)
  rw [lg_entry_eq]
  generalize (lg_sl ([.ref pO, .int a1]) ++ List.replicate (2 - (lg_sl ([.ref pO, .int a1])).length) Slot.unset).toArray = ls at hl ⊢
  have hl : lv_has ls 2 [(0, .ref pO), (1, .int a1)] := hl
  refine jn_H hP hS (fun H locs hP hS => ?_)
  refine lv_aload_n hx hb dX4_returnIf_0 rfl (lv_at hl 0 rfl) ?_
  refine va_get (D := (dC, dI)) (ci := 4) (v := .ref fO) (C := RX4) (T := TX4) (N := 13) hx hb hts iX4_returnIf_X4 hown hK hP 0 rfl rfl 3 (by decide) (hts _ qX4_returnIf_0) (fun _ h9 => h9) rfl dX4_returnIf_1 ?_
  refine lv_iload_n hx hb dX4_returnIf_4 rfl (lv_at hl 1 rfl) ?_
  obtain ⟨hPc, hDc, hFc⟩ := xP_F hP hD hS hA
  have hKc := hK.sub (tys' := [(cI, .int)]) [0] rfl
  refine va_calli (va_runV (As := [.int a1]) (rest := []) ⟨hx, hb, hml, hown, hts⟩ (k_X3_holds l dC dI cI fO H.size (gPW_F u) a1) (cwV 1 hts gX4_returnIf_X3_holds rfl rfl rfl (by decide +kernel) ⟨Nat.le_of_ble_eq_true rfl, Nat.le_of_ble_eq_true rfl⟩) ⟨fun a U g mk q => by obtain ⟨q0, q1, qP, qK, qD⟩ := q; exact ⟨q0, q1, qP, va_K.moved (u := U) (U := U.calling g mk a) (Vm.Alike.refl U.vm) qK, qD⟩, va_recv hKc hPc (ci := 3) (q0 := 0) rfl rfl, fun U hU hW => ⟨rfl, by rw [hU], by rw [hU]; exact hPc, va_K.moved hW.alike hKc, hDc.weaken (fun _ _ _ _ => trivial)⟩⟩ rfl rfl hl.1 rfl (lv_room (Nat.le_of_ble_eq_true rfl)) dX4_returnIf_5 ⟨Nat.le_of_ble_eq_true rfl, Nat.le_of_ble_eq_true rfl⟩) hS (fun q _ h => hFc q h) hFc (fun r9 u9 t H1 locs ht hvm hw hB hz1 hk1 hS => ?_)
  obtain ⟨hw1, hw2⟩ := hw
  have hw2 := hw2.symm
  subst hw1 hw2
  obtain ⟨hP1, hK1, hD1⟩ := hB
  rw [ht] at hP1
  obtain ⟨hP, hD⟩ := jP_F0 hP hD hk1 hFc hP1 hD1
  clear hPc hDc hKc hFc hz1 hk1 hP1 hK1 hD1 ht hvm
  generalize H1 = H at hP hS ⊢
  refine lv_if_ne (tgt := 13) hx hb dX4_returnIf_8 (by decide) (fun c1 => ?_) (fun c1 => ?_)
  · skip
    refine lv_aload_n hx hb dX4_returnIf_13 rfl (lv_at hl 0 rfl) ?_
    refine lv_aload_n hx hb dX4_returnIf_14 rfl (lv_at hl 0 rfl) ?_
    obtain ⟨hPc, hDc, hFc⟩ := xP_P hP hD hS hA
    have hKc := hK.sub (tys' := [(cI, .int)]) [0] rfl
    refine va_calli (va_runV (As := []) (rest := [.ref pO]) ⟨hx, hb, hml, hown, hts⟩ (k_X4_pop l dC dI cI pO mS mA dS dA cO iA oA kO fO aO rA H.size u) (cwV 0 hts gX4_returnIf_X4_pop rfl rfl rfl (by decide +kernel) ⟨Nat.le_of_ble_eq_true rfl, Nat.le_of_ble_eq_true rfl⟩) ⟨fun a U g mk q => by obtain ⟨q0, q1, qP, qK, qD⟩ := q; exact ⟨q0, q1, qP, va_K.moved (u := U) (U := U.calling g mk a) (Vm.Alike.refl U.vm) qK, qD⟩, va_recv hKc hPc (ci := 4) (q0 := 0) rfl rfl, fun U hU hW => ⟨rfl, by rw [hU], by rw [hU]; exact hPc, va_K.moved hW.alike hKc, hDc.weaken (fun _ _ _ _ => trivial)⟩⟩ rfl rfl hl.1 rfl (lv_room (Nat.le_of_ble_eq_true rfl)) dX4_returnIf_15 ⟨Nat.le_of_ble_eq_true rfl, Nat.le_of_ble_eq_true rfl⟩) hS (fun q _ h => hFc q h) hFc (fun r9 u9 t H1 locs ht hvm hw hB hz1 hk1 hS => ?_)
    obtain ⟨rfl, rfl⟩ := hw
    obtain ⟨hP1, hK1, hD1⟩ := hB
    rw [ht] at hP1
    obtain ⟨hP, hD⟩ := jP_P hP hD hk1 hFc hP1 hD1
    clear hPc hDc hKc hFc hz1 hk1 hP1 hK1 hD1 ht hvm
    generalize H1 = H at hP hS ⊢
    refine va_put (D := (dC, dI)) (ci := 4) (v := .int (f_X4_pop u).1) (ty := .int) (C := RX4) (T := TX4) (N := 13) hx hb hts iX4_returnIf_X4 tyX4 tyX4_ok nmX4 hown hK hP hD hS 0 rfl rfl 6 (by decide) (hts _ qX4_returnIf_1) (fun _ h9 => h9) rfl (by decide +kernel) rfl rfl (Nat.le_of_ble_eq_true rfl) dX4_returnIf_18 (fun H locs hP hD hS => ?_)
    obtain ⟨hP, hD⟩ := pP_P_pc hP hD
    refine lv_bipush (v := 11) hx hb dX4_returnIf_21 (by decide) ?_
    exact W.iret (v := 11) hx hb hr (fun t ht hW => ⟨⟨11, (sPW_P_pc (f_X4_pop u).2 (f_X4_pop u).1), rfl, ⟨(by simp only [f_X4_returnIf, if_neg c1]), (by simp only [f_X4_returnIf, if_neg c1])⟩, by rw [ht]; exact hP, va_K.moved hW.alike hK, hD⟩, hS.F ht⟩) hS.2.2 dX4_returnIf_23
  · skip
    refine lv_iconst (v := 5) hx hb dX4_returnIf_11 (by decide) ?_
    exact W.iret (v := 5) hx hb hr (fun t ht hW => ⟨⟨5, u, rfl, ⟨(by simp only [f_X4_returnIf, if_pos c1]), (by simp only [f_X4_returnIf, if_pos c1])⟩, by rw [ht]; exact hP, va_K.moved hW.alike hK, hD⟩, hS.F ht⟩) hS.2.2 dX4_returnIf_12

def f_X4_popAccumulator (u : PW) : Int32 × PW := (10, (sPW_F (sPW_P_r (f_X4_pop u).2 (upd (gPW_P_r (f_X4_pop u).2) (7 : Int32).toNatClampNeg ((f_X4_pop u).1 >>> ((8 : Int32) &&& 31)))) (f_X3_unpack (gPW_F (sPW_P_r (f_X4_pop u).2 (upd (gPW_P_r (f_X4_pop u).2) (7 : Int32).toNatClampNeg ((f_X4_pop u).1 >>> ((8 : Int32) &&& 31))))) (f_X4_pop u).1)))
theorem qX4_popAccumulator_0 : Cond.fieldLink RX4 27 "DiskMachine$Processor" "registers" "[I" ∈ wsX4_popAccumulator := by decide +kernel
theorem qX4_popAccumulator_1 : Cond.fieldLink RX4 12 "DiskMachine$Processor" "flags" "LDiskMachine$Flags;" ∈ wsX4_popAccumulator := by decide +kernel
theorem iX4_popAccumulator_X4 : ∀ w ∈ wsX40, w ∈ wsX4_popAccumulator := by decide +kernel
set_option maxHeartbeats 4000000 in
set_option maxRecDepth 100000 in
theorem k_X4_popAccumulator (l : Launch) (dC : Nat → ClassId) (dI : Nat → Nat → Nat) (cI : ClassId) (pO mS mA dS dA cO iA oA kO fO aO rA : Nat) (sz : Nat) (u : PW) : Met l yX4_popAccumulator wsX4_popAccumulator ({ frames := 2, cells := 0, slots := 0, locals := 42 }) (va_Pc [.ref pO] (wB dC dI [(cI, .int)] sz (wP cI pO mS mA dS dA cO iA oA kO fO aO rA u))) (va_Qi (fun (r : Int32) (u' : PW) => r = (f_X4_popAccumulator u).1 ∧ u' = (f_X4_popAccumulator u).2) (fun u' => wE dC dI [(cI, .int)] (va_A (wP cI pO mS mA dS dA cO iA oA kO fO aO rA u) sz) (wP cI pO mS mA dS dA cO iA oA kO fO aO rA u')) (va_A (wP cI pO mS mA dS dA cO iA oA kO fO aO rA u) sz)) 0 0 (va_A (wP cI pO mS mA dS dA cO iA oA kO fO aO rA u) sz) := by
  refine Met.ofW (cc := cX4_popAccumulator) (maxL := 2) (ret := (some .int)) (by decide) rfl ?_
  intro p e s m args below meth c s₁ B hml hv
  obtain ⟨rfl, hsz, hP, hK, hD0⟩ := hv
  have hx := B.exec
  have hb := B.bytes
  have hr := B.returns
  have hts := atoms_spec (ws := wsX4_popAccumulator) B.pre
  have hown : s.vm.findClass RX4 = some m.cls := findClass_of_methodNamed B.named
  have hlocks := B.notSynchronized
  subst hsz
  have hD := hD0.self (sz := s.heap.size)
  generalize hAe : va_A (wP cI pO mS mA dS dA cO iA oA kO fO aO rA u) s.heap.size = A at hD ⊢
  have hA : ∀ q : Nat, s.heap.size ≤ q → A q := fun q h => by rw [← hAe]; exact Or.inr h
  have hS : va_S A s.heap s.heap [] := va_S.rf
  have hP : va_P (dC, dI) vwCl (wP cI pO mS mA dS dA cO iA oA kO fO aO rA u) s.heap := hP
  clear hAe hD0
  have hl := lv_entry ([.ref pO]) (n := 2) (Nat.le_of_ble_eq_true rfl)
  rw [lg_entry_eq]
  generalize (lg_sl ([.ref pO]) ++ List.replicate (2 - (lg_sl ([.ref pO])).length) Slot.unset).toArray = ls at hl ⊢
  have hl : lv_has ls 2 [(0, .ref pO)] := hl
  refine jn_H hP hS (fun H locs hP hS => ?_)
  refine lv_aload_n hx hb dX4_popAccumulator_0 rfl (lv_at hl 0 rfl) ?_
  obtain ⟨hPc, hDc, hFc⟩ := xP_P hP hD hS hA
  have hKc := hK.sub (tys' := [(cI, .int)]) [0] rfl
  refine va_calli (va_runV (As := []) (rest := []) ⟨hx, hb, hml, hown, hts⟩ (k_X4_pop l dC dI cI pO mS mA dS dA cO iA oA kO fO aO rA H.size u) (cwV 0 hts gX4_popAccumulator_X4_pop rfl rfl rfl (by decide +kernel) ⟨Nat.le_of_ble_eq_true rfl, Nat.le_of_ble_eq_true rfl⟩) ⟨fun a U g mk q => by obtain ⟨q0, q1, qP, qK, qD⟩ := q; exact ⟨q0, q1, qP, va_K.moved (u := U) (U := U.calling g mk a) (Vm.Alike.refl U.vm) qK, qD⟩, va_recv hKc hPc (ci := 4) (q0 := 0) rfl rfl, fun U hU hW => ⟨rfl, by rw [hU], by rw [hU]; exact hPc, va_K.moved hW.alike hKc, hDc.weaken (fun _ _ _ _ => trivial)⟩⟩ rfl rfl hl.1 rfl (lv_room (Nat.le_of_ble_eq_true rfl)) dX4_popAccumulator_1 ⟨Nat.le_of_ble_eq_true rfl, Nat.le_of_ble_eq_true rfl⟩) hS (fun q _ h => hFc q h) hFc (fun r9 u9 t H1 locs ht hvm hw hB hz1 hk1 hS => ?_)
  obtain ⟨rfl, rfl⟩ := hw
  obtain ⟨hP1, hK1, hD1⟩ := hB
  rw [ht] at hP1
  obtain ⟨hP, hD⟩ := jP_P hP hD hk1 hFc hP1 hD1
  clear hPc hDc hKc hFc hz1 hk1 hP1 hK1 hD1 ht hvm
  generalize H1 = H at hP hS ⊢
  refine lv_istore_n (lv' := [(1, .int (f_X4_pop u).1), (0, .ref pO)]) hx hb dX4_popAccumulator_4 rfl hl (by decide) rfl (fun ls hl => ?_)
  refine lv_aload_n hx hb dX4_popAccumulator_5 rfl (lv_at hl 1 rfl) ?_
  refine va_get (D := (dC, dI)) (ci := 4) (v := .ref rA) (C := RX4) (T := TX4) (N := 13) hx hb hts iX4_popAccumulator_X4 hown hK hP 0 rfl rfl 5 (by decide) (hts _ qX4_popAccumulator_0) (fun _ h9 => h9) rfl dX4_popAccumulator_6 ?_
  refine lv_bipush (v := 7) hx hb dX4_popAccumulator_9 (by decide) ?_
  refine lv_iload_n hx hb dX4_popAccumulator_11 rfl (lv_at hl 0 rfl) ?_
  refine lv_bipush (v := 8) hx hb dX4_popAccumulator_12 (by decide) ?_
  refine lv_ishr hx hb dX4_popAccumulator_14 ?_
  refine va_iast (f := (gPW_P_r (f_X4_pop u).2)) hx hb hK hP hD hS 11 0 rfl rfl (ix_lit (by decide)) dX4_popAccumulator_15 (fun H locs hP hD hS => ?_)
  obtain ⟨hP, hD⟩ := aP_rA hP hD
  refine lv_aload_n hx hb dX4_popAccumulator_16 rfl (lv_at hl 1 rfl) ?_
  refine va_get (D := (dC, dI)) (ci := 4) (v := .ref fO) (C := RX4) (T := TX4) (N := 13) hx hb hts iX4_popAccumulator_X4 hown hK hP 0 rfl rfl 3 (by decide) (hts _ qX4_popAccumulator_1) (fun _ h9 => h9) rfl dX4_popAccumulator_17 ?_
  refine lv_iload_n hx hb dX4_popAccumulator_20 rfl (lv_at hl 0 rfl) ?_
  obtain ⟨hPc, hDc, hFc⟩ := xP_F hP hD hS hA
  have hKc := hK.sub (tys' := [(cI, .int)]) [0] rfl
  refine va_callv (va_runV (As := [.int (f_X4_pop u).1]) (rest := []) ⟨hx, hb, hml, hown, hts⟩ (k_X3_unpack l dC dI cI fO H.size (gPW_F (sPW_P_r (f_X4_pop u).2 (upd (gPW_P_r (f_X4_pop u).2) (7 : Int32).toNatClampNeg ((f_X4_pop u).1 >>> ((8 : Int32) &&& 31))))) (f_X4_pop u).1) (cwV 1 hts gX4_popAccumulator_X3_unpack rfl rfl rfl (by decide +kernel) ⟨Nat.le_of_ble_eq_true rfl, Nat.le_of_ble_eq_true rfl⟩) ⟨fun a U g mk q => by obtain ⟨q0, q1, qP, qK, qD⟩ := q; exact ⟨q0, q1, qP, va_K.moved (u := U) (U := U.calling g mk a) (Vm.Alike.refl U.vm) qK, qD⟩, va_recv hKc hPc (ci := 3) (q0 := 0) rfl rfl, fun U hU hW => ⟨rfl, by rw [hU], by rw [hU]; exact hPc, va_K.moved hW.alike hKc, hDc.weaken (fun _ _ _ _ => trivial)⟩⟩ rfl rfl hl.1 rfl (lv_room (Nat.le_of_ble_eq_true rfl)) dX4_popAccumulator_21 ⟨Nat.le_of_ble_eq_true rfl, Nat.le_of_ble_eq_true rfl⟩) hS (fun q _ h => hFc q h) hFc (fun u9 t H1 locs ht hvm hw hB hz1 hk1 hS => ?_)
  subst hw
  obtain ⟨hP1, hK1, hD1⟩ := hB
  rw [ht] at hP1
  obtain ⟨hP, hD⟩ := jP_F hP hD hk1 hFc hP1 hD1
  clear hPc hDc hKc hFc hz1 hk1 hP1 hK1 hD1 ht hvm
  generalize H1 = H at hP hS ⊢
  refine lv_bipush (v := 10) hx hb dX4_popAccumulator_24 (by decide) ?_
  exact W.iret (v := 10) hx hb hr (fun t ht hW => ⟨⟨10, (sPW_F (sPW_P_r (f_X4_pop u).2 (upd (gPW_P_r (f_X4_pop u).2) (7 : Int32).toNatClampNeg ((f_X4_pop u).1 >>> ((8 : Int32) &&& 31)))) (f_X3_unpack (gPW_F (sPW_P_r (f_X4_pop u).2 (upd (gPW_P_r (f_X4_pop u).2) (7 : Int32).toNatClampNeg ((f_X4_pop u).1 >>> ((8 : Int32) &&& 31))))) (f_X4_pop u).1)), rfl, ⟨rfl, rfl⟩, by rw [ht]; exact hP, va_K.moved hW.alike hK, hD⟩, hS.F ht⟩) hS.2.2 dX4_popAccumulator_26

def f_X4_popOrReturn (u : PW) (a1 : Int32) : Int32 × PW := 
  if a1 = 1 then (10, (sPW_P_pc (f_X4_pop u).2 (f_X4_pop u).1))
  else 
    if a1 = 2 then (10, (f_X4_setPair (f_X4_pop u).2 (a1 >>> ((1 : Int32) &&& 31)) (f_X4_pop u).1))
    else 
      if a1 = 3 then (10, (sPW_P_pc (f_X4_pop u).2 (f_X4_pop u).1))
      else 
        if a1 = 4 then (10, (f_X4_setPair (f_X4_pop u).2 (a1 >>> ((1 : Int32) &&& 31)) (f_X4_pop u).1))
        else 
          if a1 = 5 then (5, (sPW_P_pc u (f_X4_pair u 2)))
          else 
            if a1 = 6 then ((f_X4_popAccumulator u).1, (f_X4_popAccumulator u).2)
            else 
              if a1 = 7 then (5, (sPW_P_sp u (f_X4_pair u 2)))
              else (10, (f_X4_setPair (f_X4_pop u).2 (a1 >>> ((1 : Int32) &&& 31)) (f_X4_pop u).1))
theorem qX4_popOrReturn_0 : Cond.fieldLink RX4 54 "DiskMachine$Processor" "sp" "I" ∈ wsX4_popOrReturn := by decide +kernel
theorem qX4_popOrReturn_1 : Cond.fieldLink RX4 51 "DiskMachine$Processor" "pc" "I" ∈ wsX4_popOrReturn := by decide +kernel
theorem iX4_popOrReturn_X4 : ∀ w ∈ wsX40, w ∈ wsX4_popOrReturn := by decide +kernel
set_option maxHeartbeats 4000000 in
set_option maxRecDepth 100000 in
theorem k_X4_popOrReturn (l : Launch) (dC : Nat → ClassId) (dI : Nat → Nat → Nat) (cI : ClassId) (pO mS mA dS dA cO iA oA kO fO aO rA : Nat) (sz : Nat) (u : PW) (a1 : Int32) (h1 : vp_in a1 8) : Met l yX4_popOrReturn wsX4_popOrReturn ({ frames := 3, cells := 0, slots := 0, locals := 63 }) (va_Pc [.ref pO, .int a1] (wB dC dI [(cI, .int)] sz (wP cI pO mS mA dS dA cO iA oA kO fO aO rA u))) (va_Qi (fun (r : Int32) (u' : PW) => r = (f_X4_popOrReturn u a1).1 ∧ u' = (f_X4_popOrReturn u a1).2) (fun u' => wE dC dI [(cI, .int)] (va_A (wP cI pO mS mA dS dA cO iA oA kO fO aO rA u) sz) (wP cI pO mS mA dS dA cO iA oA kO fO aO rA u')) (va_A (wP cI pO mS mA dS dA cO iA oA kO fO aO rA u) sz)) 0 0 (va_A (wP cI pO mS mA dS dA cO iA oA kO fO aO rA u) sz) := by
  refine Met.ofW (cc := cX4_popOrReturn) (maxL := 2) (ret := (some .int)) (by decide) rfl ?_
  intro p e s m args below meth c s₁ B hml hv
  obtain ⟨rfl, hsz, hP, hK, hD0⟩ := hv
  have hx := B.exec
  have hb := B.bytes
  have hr := B.returns
  have hts := atoms_spec (ws := wsX4_popOrReturn) B.pre
  have hown : s.vm.findClass RX4 = some m.cls := findClass_of_methodNamed B.named
  have hlocks := B.notSynchronized
  subst hsz
  have hD := hD0.self (sz := s.heap.size)
  generalize hAe : va_A (wP cI pO mS mA dS dA cO iA oA kO fO aO rA u) s.heap.size = A at hD ⊢
  have hA : ∀ q : Nat, s.heap.size ≤ q → A q := fun q h => by rw [← hAe]; exact Or.inr h
  have hS : va_S A s.heap s.heap [] := va_S.rf
  have hP : va_P (dC, dI) vwCl (wP cI pO mS mA dS dA cO iA oA kO fO aO rA u) s.heap := hP
  clear hAe hD0
  have hl := lv_entry ([.ref pO, .int a1]) (n := 2) (Nat.le_of_ble_eq_true rfl)
  rw [lg_entry_eq]
  generalize (lg_sl ([.ref pO, .int a1]) ++ List.replicate (2 - (lg_sl ([.ref pO, .int a1])).length) Slot.unset).toArray = ls at hl ⊢
  have hl : lv_has ls 2 [(0, .ref pO), (1, .int a1)] := hl
  refine jn_H hP hS (fun H locs hP hS => ?_)
  refine lv_iload_n hx hb dX4_popOrReturn_0 rfl (lv_at hl 1 rfl) ?_
  by_cases c1 : a1 = 1
  · refine tb_in (k := 1) (off := 43) (tgt := 44) hx hb dX4_popOrReturn_1 c1 (by decide) (by decide) (by decide) (by decide) ?_
    refine lv_aload_n hx hb dX4_popOrReturn_44 rfl (lv_at hl 0 rfl) ?_
    refine lv_aload_n hx hb dX4_popOrReturn_45 rfl (lv_at hl 0 rfl) ?_
    obtain ⟨hPc, hDc, hFc⟩ := xP_P hP hD hS hA
    have hKc := hK.sub (tys' := [(cI, .int)]) [0] rfl
    refine va_calli (va_runV (As := []) (rest := [.ref pO]) ⟨hx, hb, hml, hown, hts⟩ (k_X4_pop l dC dI cI pO mS mA dS dA cO iA oA kO fO aO rA H.size u) (cwV 0 hts gX4_popOrReturn_X4_pop rfl rfl rfl (by decide +kernel) ⟨Nat.le_of_ble_eq_true rfl, Nat.le_of_ble_eq_true rfl⟩) ⟨fun a U g mk q => by obtain ⟨q0, q1, qP, qK, qD⟩ := q; exact ⟨q0, q1, qP, va_K.moved (u := U) (U := U.calling g mk a) (Vm.Alike.refl U.vm) qK, qD⟩, va_recv hKc hPc (ci := 4) (q0 := 0) rfl rfl, fun U hU hW => ⟨rfl, by rw [hU], by rw [hU]; exact hPc, va_K.moved hW.alike hKc, hDc.weaken (fun _ _ _ _ => trivial)⟩⟩ rfl rfl hl.1 rfl (lv_room (Nat.le_of_ble_eq_true rfl)) dX4_popOrReturn_46 ⟨Nat.le_of_ble_eq_true rfl, Nat.le_of_ble_eq_true rfl⟩) hS (fun q _ h => hFc q h) hFc (fun r9 u9 t H1 locs ht hvm hw hB hz1 hk1 hS => ?_)
    obtain ⟨rfl, rfl⟩ := hw
    obtain ⟨hP1, hK1, hD1⟩ := hB
    rw [ht] at hP1
    obtain ⟨hP, hD⟩ := jP_P hP hD hk1 hFc hP1 hD1
    clear hPc hDc hKc hFc hz1 hk1 hP1 hK1 hD1 ht hvm
    generalize H1 = H at hP hS ⊢
    refine va_put (D := (dC, dI)) (ci := 4) (v := .int (f_X4_pop u).1) (ty := .int) (C := RX4) (T := TX4) (N := 13) hx hb hts iX4_popOrReturn_X4 tyX4 tyX4_ok nmX4 hown hK hP hD hS 0 rfl rfl 6 (by decide) (hts _ qX4_popOrReturn_1) (fun _ h9 => h9) rfl (by decide +kernel) rfl rfl (Nat.le_of_ble_eq_true rfl) dX4_popOrReturn_49 (fun H locs hP hD hS => ?_)
    obtain ⟨hP, hD⟩ := pP_P_pc hP hD
    refine lv_bipush (v := 10) hx hb dX4_popOrReturn_52 (by decide) ?_
    exact W.iret (v := 10) hx hb hr (fun t ht hW => ⟨⟨10, (sPW_P_pc (f_X4_pop u).2 (f_X4_pop u).1), rfl, ⟨(by simp only [f_X4_popOrReturn, if_pos c1]), (by simp only [f_X4_popOrReturn, if_pos c1])⟩, by rw [ht]; exact hP, va_K.moved hW.alike hK, hD⟩, hS.F ht⟩) hS.2.2 dX4_popOrReturn_54
  · skip
    by_cases c2 : a1 = 2
    · refine tb_in (k := 2) (off := 81) (tgt := 82) hx hb dX4_popOrReturn_1 c2 (by decide) (by decide) (by decide) (by decide) ?_
      refine lv_aload_n hx hb dX4_popOrReturn_82 rfl (lv_at hl 0 rfl) ?_
      refine lv_iload_n hx hb dX4_popOrReturn_83 rfl (lv_at hl 1 rfl) ?_
      refine lv_iconst (v := 1) hx hb dX4_popOrReturn_84 (by decide) ?_
      refine lv_ishr hx hb dX4_popOrReturn_85 ?_
      refine lv_aload_n hx hb dX4_popOrReturn_86 rfl (lv_at hl 0 rfl) ?_
      obtain ⟨hPc, hDc, hFc⟩ := xP_P hP hD hS hA
      have hKc := hK.sub (tys' := [(cI, .int)]) [0] rfl
      refine va_calli (va_runV (As := []) (rest := [.int (a1 >>> ((1 : Int32) &&& 31)), .ref pO]) ⟨hx, hb, hml, hown, hts⟩ (k_X4_pop l dC dI cI pO mS mA dS dA cO iA oA kO fO aO rA H.size u) (cwV 0 hts gX4_popOrReturn_X4_pop rfl rfl rfl (by decide +kernel) ⟨Nat.le_of_ble_eq_true rfl, Nat.le_of_ble_eq_true rfl⟩) ⟨fun a U g mk q => by obtain ⟨q0, q1, qP, qK, qD⟩ := q; exact ⟨q0, q1, qP, va_K.moved (u := U) (U := U.calling g mk a) (Vm.Alike.refl U.vm) qK, qD⟩, va_recv hKc hPc (ci := 4) (q0 := 0) rfl rfl, fun U hU hW => ⟨rfl, by rw [hU], by rw [hU]; exact hPc, va_K.moved hW.alike hKc, hDc.weaken (fun _ _ _ _ => trivial)⟩⟩ rfl rfl hl.1 rfl (lv_room (Nat.le_of_ble_eq_true rfl)) dX4_popOrReturn_87 ⟨Nat.le_of_ble_eq_true rfl, Nat.le_of_ble_eq_true rfl⟩) hS (fun q _ h => hFc q h) hFc (fun r9 u9 t H1 locs ht hvm hw hB hz1 hk1 hS => ?_)
      obtain ⟨rfl, rfl⟩ := hw
      obtain ⟨hP1, hK1, hD1⟩ := hB
      rw [ht] at hP1
      obtain ⟨hP, hD⟩ := jP_P hP hD hk1 hFc hP1 hD1
      clear hPc hDc hKc hFc hz1 hk1 hP1 hK1 hD1 ht hvm
      generalize H1 = H at hP hS ⊢
      obtain ⟨hPc, hDc, hFc⟩ := xP_P hP hD hS hA
      have hKc := hK.sub (tys' := [(cI, .int)]) [0] rfl
      refine va_callv (va_runV (As := [.int (a1 >>> ((1 : Int32) &&& 31)), .int (f_X4_pop u).1]) (rest := []) ⟨hx, hb, hml, hown, hts⟩ (k_X4_setPair l dC dI cI pO mS mA dS dA cO iA oA kO fO aO rA H.size (f_X4_pop u).2 (a1 >>> ((1 : Int32) &&& 31)) (f_X4_pop u).1 (in_shr1 h1)) (cwV 2 hts gX4_popOrReturn_X4_setPair rfl rfl rfl (by decide +kernel) ⟨Nat.le_of_ble_eq_true rfl, Nat.le_of_ble_eq_true rfl⟩) ⟨fun a U g mk q => by obtain ⟨q0, q1, qP, qK, qD⟩ := q; exact ⟨q0, q1, qP, va_K.moved (u := U) (U := U.calling g mk a) (Vm.Alike.refl U.vm) qK, qD⟩, va_recv hKc hPc (ci := 4) (q0 := 0) rfl rfl, fun U hU hW => ⟨rfl, by rw [hU], by rw [hU]; exact hPc, va_K.moved hW.alike hKc, hDc.weaken (fun _ _ _ _ => trivial)⟩⟩ rfl rfl hl.1 rfl (lv_room (Nat.le_of_ble_eq_true rfl)) dX4_popOrReturn_90 ⟨Nat.le_of_ble_eq_true rfl, Nat.le_of_ble_eq_true rfl⟩) hS (fun q _ h => hFc q h) hFc (fun u9 t H1 locs ht hvm hw hB hz1 hk1 hS => ?_)
      subst hw
      obtain ⟨hP1, hK1, hD1⟩ := hB
      rw [ht] at hP1
      obtain ⟨hP, hD⟩ := jP_P hP hD hk1 hFc hP1 hD1
      clear hPc hDc hKc hFc hz1 hk1 hP1 hK1 hD1 ht hvm
      generalize H1 = H at hP hS ⊢
      refine lv_bipush (v := 10) hx hb dX4_popOrReturn_93 (by decide) ?_
      exact W.iret (v := 10) hx hb hr (fun t ht hW => ⟨⟨10, (f_X4_setPair (f_X4_pop u).2 (a1 >>> ((1 : Int32) &&& 31)) (f_X4_pop u).1), rfl, ⟨(by simp only [f_X4_popOrReturn, if_neg c1, if_pos c2]), (by simp only [f_X4_popOrReturn, if_neg c1, if_pos c2])⟩, by rw [ht]; exact hP, va_K.moved hW.alike hK, hD⟩, hS.F ht⟩) hS.2.2 dX4_popOrReturn_95
    · skip
      by_cases c3 : a1 = 3
      · refine tb_in (k := 3) (off := 43) (tgt := 44) hx hb dX4_popOrReturn_1 c3 (by decide) (by decide) (by decide) (by decide) ?_
        refine lv_aload_n hx hb dX4_popOrReturn_44 rfl (lv_at hl 0 rfl) ?_
        refine lv_aload_n hx hb dX4_popOrReturn_45 rfl (lv_at hl 0 rfl) ?_
        obtain ⟨hPc, hDc, hFc⟩ := xP_P hP hD hS hA
        have hKc := hK.sub (tys' := [(cI, .int)]) [0] rfl
        refine va_calli (va_runV (As := []) (rest := [.ref pO]) ⟨hx, hb, hml, hown, hts⟩ (k_X4_pop l dC dI cI pO mS mA dS dA cO iA oA kO fO aO rA H.size u) (cwV 0 hts gX4_popOrReturn_X4_pop rfl rfl rfl (by decide +kernel) ⟨Nat.le_of_ble_eq_true rfl, Nat.le_of_ble_eq_true rfl⟩) ⟨fun a U g mk q => by obtain ⟨q0, q1, qP, qK, qD⟩ := q; exact ⟨q0, q1, qP, va_K.moved (u := U) (U := U.calling g mk a) (Vm.Alike.refl U.vm) qK, qD⟩, va_recv hKc hPc (ci := 4) (q0 := 0) rfl rfl, fun U hU hW => ⟨rfl, by rw [hU], by rw [hU]; exact hPc, va_K.moved hW.alike hKc, hDc.weaken (fun _ _ _ _ => trivial)⟩⟩ rfl rfl hl.1 rfl (lv_room (Nat.le_of_ble_eq_true rfl)) dX4_popOrReturn_46 ⟨Nat.le_of_ble_eq_true rfl, Nat.le_of_ble_eq_true rfl⟩) hS (fun q _ h => hFc q h) hFc (fun r9 u9 t H1 locs ht hvm hw hB hz1 hk1 hS => ?_)
        obtain ⟨rfl, rfl⟩ := hw
        obtain ⟨hP1, hK1, hD1⟩ := hB
        rw [ht] at hP1
        obtain ⟨hP, hD⟩ := jP_P hP hD hk1 hFc hP1 hD1
        clear hPc hDc hKc hFc hz1 hk1 hP1 hK1 hD1 ht hvm
        generalize H1 = H at hP hS ⊢
        refine va_put (D := (dC, dI)) (ci := 4) (v := .int (f_X4_pop u).1) (ty := .int) (C := RX4) (T := TX4) (N := 13) hx hb hts iX4_popOrReturn_X4 tyX4 tyX4_ok nmX4 hown hK hP hD hS 0 rfl rfl 6 (by decide) (hts _ qX4_popOrReturn_1) (fun _ h9 => h9) rfl (by decide +kernel) rfl rfl (Nat.le_of_ble_eq_true rfl) dX4_popOrReturn_49 (fun H locs hP hD hS => ?_)
        obtain ⟨hP, hD⟩ := pP_P_pc hP hD
        refine lv_bipush (v := 10) hx hb dX4_popOrReturn_52 (by decide) ?_
        exact W.iret (v := 10) hx hb hr (fun t ht hW => ⟨⟨10, (sPW_P_pc (f_X4_pop u).2 (f_X4_pop u).1), rfl, ⟨(by simp only [f_X4_popOrReturn, if_neg c1, if_neg c2, if_pos c3]), (by simp only [f_X4_popOrReturn, if_neg c1, if_neg c2, if_pos c3])⟩, by rw [ht]; exact hP, va_K.moved hW.alike hK, hD⟩, hS.F ht⟩) hS.2.2 dX4_popOrReturn_54
      · skip
        by_cases c4 : a1 = 4
        · refine tb_in (k := 4) (off := 81) (tgt := 82) hx hb dX4_popOrReturn_1 c4 (by decide) (by decide) (by decide) (by decide) ?_
          refine lv_aload_n hx hb dX4_popOrReturn_82 rfl (lv_at hl 0 rfl) ?_
          refine lv_iload_n hx hb dX4_popOrReturn_83 rfl (lv_at hl 1 rfl) ?_
          refine lv_iconst (v := 1) hx hb dX4_popOrReturn_84 (by decide) ?_
          refine lv_ishr hx hb dX4_popOrReturn_85 ?_
          refine lv_aload_n hx hb dX4_popOrReturn_86 rfl (lv_at hl 0 rfl) ?_
          obtain ⟨hPc, hDc, hFc⟩ := xP_P hP hD hS hA
          have hKc := hK.sub (tys' := [(cI, .int)]) [0] rfl
          refine va_calli (va_runV (As := []) (rest := [.int (a1 >>> ((1 : Int32) &&& 31)), .ref pO]) ⟨hx, hb, hml, hown, hts⟩ (k_X4_pop l dC dI cI pO mS mA dS dA cO iA oA kO fO aO rA H.size u) (cwV 0 hts gX4_popOrReturn_X4_pop rfl rfl rfl (by decide +kernel) ⟨Nat.le_of_ble_eq_true rfl, Nat.le_of_ble_eq_true rfl⟩) ⟨fun a U g mk q => by obtain ⟨q0, q1, qP, qK, qD⟩ := q; exact ⟨q0, q1, qP, va_K.moved (u := U) (U := U.calling g mk a) (Vm.Alike.refl U.vm) qK, qD⟩, va_recv hKc hPc (ci := 4) (q0 := 0) rfl rfl, fun U hU hW => ⟨rfl, by rw [hU], by rw [hU]; exact hPc, va_K.moved hW.alike hKc, hDc.weaken (fun _ _ _ _ => trivial)⟩⟩ rfl rfl hl.1 rfl (lv_room (Nat.le_of_ble_eq_true rfl)) dX4_popOrReturn_87 ⟨Nat.le_of_ble_eq_true rfl, Nat.le_of_ble_eq_true rfl⟩) hS (fun q _ h => hFc q h) hFc (fun r9 u9 t H1 locs ht hvm hw hB hz1 hk1 hS => ?_)
          obtain ⟨rfl, rfl⟩ := hw
          obtain ⟨hP1, hK1, hD1⟩ := hB
          rw [ht] at hP1
          obtain ⟨hP, hD⟩ := jP_P hP hD hk1 hFc hP1 hD1
          clear hPc hDc hKc hFc hz1 hk1 hP1 hK1 hD1 ht hvm
          generalize H1 = H at hP hS ⊢
          obtain ⟨hPc, hDc, hFc⟩ := xP_P hP hD hS hA
          have hKc := hK.sub (tys' := [(cI, .int)]) [0] rfl
          refine va_callv (va_runV (As := [.int (a1 >>> ((1 : Int32) &&& 31)), .int (f_X4_pop u).1]) (rest := []) ⟨hx, hb, hml, hown, hts⟩ (k_X4_setPair l dC dI cI pO mS mA dS dA cO iA oA kO fO aO rA H.size (f_X4_pop u).2 (a1 >>> ((1 : Int32) &&& 31)) (f_X4_pop u).1 (in_shr1 h1)) (cwV 2 hts gX4_popOrReturn_X4_setPair rfl rfl rfl (by decide +kernel) ⟨Nat.le_of_ble_eq_true rfl, Nat.le_of_ble_eq_true rfl⟩) ⟨fun a U g mk q => by obtain ⟨q0, q1, qP, qK, qD⟩ := q; exact ⟨q0, q1, qP, va_K.moved (u := U) (U := U.calling g mk a) (Vm.Alike.refl U.vm) qK, qD⟩, va_recv hKc hPc (ci := 4) (q0 := 0) rfl rfl, fun U hU hW => ⟨rfl, by rw [hU], by rw [hU]; exact hPc, va_K.moved hW.alike hKc, hDc.weaken (fun _ _ _ _ => trivial)⟩⟩ rfl rfl hl.1 rfl (lv_room (Nat.le_of_ble_eq_true rfl)) dX4_popOrReturn_90 ⟨Nat.le_of_ble_eq_true rfl, Nat.le_of_ble_eq_true rfl⟩) hS (fun q _ h => hFc q h) hFc (fun u9 t H1 locs ht hvm hw hB hz1 hk1 hS => ?_)
          subst hw
          obtain ⟨hP1, hK1, hD1⟩ := hB
          rw [ht] at hP1
          obtain ⟨hP, hD⟩ := jP_P hP hD hk1 hFc hP1 hD1
          clear hPc hDc hKc hFc hz1 hk1 hP1 hK1 hD1 ht hvm
          generalize H1 = H at hP hS ⊢
          refine lv_bipush (v := 10) hx hb dX4_popOrReturn_93 (by decide) ?_
          exact W.iret (v := 10) hx hb hr (fun t ht hW => ⟨⟨10, (f_X4_setPair (f_X4_pop u).2 (a1 >>> ((1 : Int32) &&& 31)) (f_X4_pop u).1), rfl, ⟨(by simp only [f_X4_popOrReturn, if_neg c1, if_neg c2, if_neg c3, if_pos c4]), (by simp only [f_X4_popOrReturn, if_neg c1, if_neg c2, if_neg c3, if_pos c4])⟩, by rw [ht]; exact hP, va_K.moved hW.alike hK, hD⟩, hS.F ht⟩) hS.2.2 dX4_popOrReturn_95
        · skip
          by_cases c5 : a1 = 5
          · refine tb_in (k := 5) (off := 54) (tgt := 55) hx hb dX4_popOrReturn_1 c5 (by decide) (by decide) (by decide) (by decide) ?_
            refine lv_aload_n hx hb dX4_popOrReturn_55 rfl (lv_at hl 0 rfl) ?_
            refine lv_aload_n hx hb dX4_popOrReturn_56 rfl (lv_at hl 0 rfl) ?_
            refine lv_iconst (v := 2) hx hb dX4_popOrReturn_57 (by decide) ?_
            obtain ⟨hPc, hDc, hFc⟩ := xP_P hP hD hS hA
            have hKc := hK.sub (tys' := [(cI, .int)]) [0] rfl
            refine va_calli (va_runV (As := [.int 2]) (rest := [.ref pO]) ⟨hx, hb, hml, hown, hts⟩ (k_X4_pair l dC dI cI pO mS mA dS dA cO iA oA kO fO aO rA H.size u 2 (ix_lit (by decide))) (cwV 1 hts gX4_popOrReturn_X4_pair rfl rfl rfl (by decide +kernel) ⟨Nat.le_of_ble_eq_true rfl, Nat.le_of_ble_eq_true rfl⟩) ⟨fun a U g mk q => by obtain ⟨q0, q1, qP, qK, qD⟩ := q; exact ⟨q0, q1, qP, va_K.moved (u := U) (U := U.calling g mk a) (Vm.Alike.refl U.vm) qK, qD⟩, va_recv hKc hPc (ci := 4) (q0 := 0) rfl rfl, fun U hU hW => ⟨rfl, by rw [hU], by rw [hU]; exact hPc, va_K.moved hW.alike hKc, hDc.weaken (fun _ _ _ _ => trivial)⟩⟩ rfl rfl hl.1 rfl (lv_room (Nat.le_of_ble_eq_true rfl)) dX4_popOrReturn_58 ⟨Nat.le_of_ble_eq_true rfl, Nat.le_of_ble_eq_true rfl⟩) hS (fun q _ h => hFc q h) hFc (fun r9 u9 t H1 locs ht hvm hw hB hz1 hk1 hS => ?_)
            obtain ⟨hw1, hw2⟩ := hw
            have hw2 := hw2.symm
            subst hw1 hw2
            obtain ⟨hP1, hK1, hD1⟩ := hB
            rw [ht] at hP1
            obtain ⟨hP, hD⟩ := jP_P0 hP hD hk1 hFc hP1 hD1
            clear hPc hDc hKc hFc hz1 hk1 hP1 hK1 hD1 ht hvm
            generalize H1 = H at hP hS ⊢
            refine va_put (D := (dC, dI)) (ci := 4) (v := .int (f_X4_pair u 2)) (ty := .int) (C := RX4) (T := TX4) (N := 13) hx hb hts iX4_popOrReturn_X4 tyX4 tyX4_ok nmX4 hown hK hP hD hS 0 rfl rfl 6 (by decide) (hts _ qX4_popOrReturn_1) (fun _ h9 => h9) rfl (by decide +kernel) rfl rfl (Nat.le_of_ble_eq_true rfl) dX4_popOrReturn_61 (fun H locs hP hD hS => ?_)
            obtain ⟨hP, hD⟩ := pP_P_pc hP hD
            refine lv_iconst (v := 5) hx hb dX4_popOrReturn_64 (by decide) ?_
            exact W.iret (v := 5) hx hb hr (fun t ht hW => ⟨⟨5, (sPW_P_pc u (f_X4_pair u 2)), rfl, ⟨(by simp only [f_X4_popOrReturn, if_neg c1, if_neg c2, if_neg c3, if_neg c4, if_pos c5]), (by simp only [f_X4_popOrReturn, if_neg c1, if_neg c2, if_neg c3, if_neg c4, if_pos c5])⟩, by rw [ht]; exact hP, va_K.moved hW.alike hK, hD⟩, hS.F ht⟩) hS.2.2 dX4_popOrReturn_65
          · skip
            by_cases c6 : a1 = 6
            · refine tb_in (k := 6) (off := 65) (tgt := 66) hx hb dX4_popOrReturn_1 c6 (by decide) (by decide) (by decide) (by decide) ?_
              refine lv_aload_n hx hb dX4_popOrReturn_66 rfl (lv_at hl 0 rfl) ?_
              obtain ⟨hPc, hDc, hFc⟩ := xP_P hP hD hS hA
              have hKc := hK.sub (tys' := [(cI, .int)]) [0] rfl
              refine va_calli (va_runV (As := []) (rest := []) ⟨hx, hb, hml, hown, hts⟩ (k_X4_popAccumulator l dC dI cI pO mS mA dS dA cO iA oA kO fO aO rA H.size u) (cwV 0 hts gX4_popOrReturn_X4_popAccumulator rfl rfl rfl (by decide +kernel) ⟨Nat.le_of_ble_eq_true rfl, Nat.le_of_ble_eq_true rfl⟩) ⟨fun a U g mk q => by obtain ⟨q0, q1, qP, qK, qD⟩ := q; exact ⟨q0, q1, qP, va_K.moved (u := U) (U := U.calling g mk a) (Vm.Alike.refl U.vm) qK, qD⟩, va_recv hKc hPc (ci := 4) (q0 := 0) rfl rfl, fun U hU hW => ⟨rfl, by rw [hU], by rw [hU]; exact hPc, va_K.moved hW.alike hKc, hDc.weaken (fun _ _ _ _ => trivial)⟩⟩ rfl rfl hl.1 rfl (lv_room (Nat.le_of_ble_eq_true rfl)) dX4_popOrReturn_67 ⟨Nat.le_of_ble_eq_true rfl, Nat.le_of_ble_eq_true rfl⟩) hS (fun q _ h => hFc q h) hFc (fun r9 u9 t H1 locs ht hvm hw hB hz1 hk1 hS => ?_)
              obtain ⟨rfl, rfl⟩ := hw
              obtain ⟨hP1, hK1, hD1⟩ := hB
              rw [ht] at hP1
              obtain ⟨hP, hD⟩ := jP_P hP hD hk1 hFc hP1 hD1
              clear hPc hDc hKc hFc hz1 hk1 hP1 hK1 hD1 ht hvm
              generalize H1 = H at hP hS ⊢
              exact W.iret (v := (f_X4_popAccumulator u).1) hx hb hr (fun t ht hW => ⟨⟨(f_X4_popAccumulator u).1, (f_X4_popAccumulator u).2, rfl, ⟨(by simp only [f_X4_popOrReturn, if_neg c1, if_neg c2, if_neg c3, if_neg c4, if_neg c5, if_pos c6]), (by simp only [f_X4_popOrReturn, if_neg c1, if_neg c2, if_neg c3, if_neg c4, if_neg c5, if_pos c6])⟩, by rw [ht]; exact hP, va_K.moved hW.alike hK, hD⟩, hS.F ht⟩) hS.2.2 dX4_popOrReturn_70
            · skip
              by_cases c7 : a1 = 7
              · refine tb_in (k := 7) (off := 70) (tgt := 71) hx hb dX4_popOrReturn_1 c7 (by decide) (by decide) (by decide) (by decide) ?_
                refine lv_aload_n hx hb dX4_popOrReturn_71 rfl (lv_at hl 0 rfl) ?_
                refine lv_aload_n hx hb dX4_popOrReturn_72 rfl (lv_at hl 0 rfl) ?_
                refine lv_iconst (v := 2) hx hb dX4_popOrReturn_73 (by decide) ?_
                obtain ⟨hPc, hDc, hFc⟩ := xP_P hP hD hS hA
                have hKc := hK.sub (tys' := [(cI, .int)]) [0] rfl
                refine va_calli (va_runV (As := [.int 2]) (rest := [.ref pO]) ⟨hx, hb, hml, hown, hts⟩ (k_X4_pair l dC dI cI pO mS mA dS dA cO iA oA kO fO aO rA H.size u 2 (ix_lit (by decide))) (cwV 1 hts gX4_popOrReturn_X4_pair rfl rfl rfl (by decide +kernel) ⟨Nat.le_of_ble_eq_true rfl, Nat.le_of_ble_eq_true rfl⟩) ⟨fun a U g mk q => by obtain ⟨q0, q1, qP, qK, qD⟩ := q; exact ⟨q0, q1, qP, va_K.moved (u := U) (U := U.calling g mk a) (Vm.Alike.refl U.vm) qK, qD⟩, va_recv hKc hPc (ci := 4) (q0 := 0) rfl rfl, fun U hU hW => ⟨rfl, by rw [hU], by rw [hU]; exact hPc, va_K.moved hW.alike hKc, hDc.weaken (fun _ _ _ _ => trivial)⟩⟩ rfl rfl hl.1 rfl (lv_room (Nat.le_of_ble_eq_true rfl)) dX4_popOrReturn_74 ⟨Nat.le_of_ble_eq_true rfl, Nat.le_of_ble_eq_true rfl⟩) hS (fun q _ h => hFc q h) hFc (fun r9 u9 t H1 locs ht hvm hw hB hz1 hk1 hS => ?_)
                obtain ⟨hw1, hw2⟩ := hw
                have hw2 := hw2.symm
                subst hw1 hw2
                obtain ⟨hP1, hK1, hD1⟩ := hB
                rw [ht] at hP1
                obtain ⟨hP, hD⟩ := jP_P0 hP hD hk1 hFc hP1 hD1
                clear hPc hDc hKc hFc hz1 hk1 hP1 hK1 hD1 ht hvm
                generalize H1 = H at hP hS ⊢
                refine va_put (D := (dC, dI)) (ci := 4) (v := .int (f_X4_pair u 2)) (ty := .int) (C := RX4) (T := TX4) (N := 13) hx hb hts iX4_popOrReturn_X4 tyX4 tyX4_ok nmX4 hown hK hP hD hS 0 rfl rfl 7 (by decide) (hts _ qX4_popOrReturn_0) (fun _ h9 => h9) rfl (by decide +kernel) rfl rfl (Nat.le_of_ble_eq_true rfl) dX4_popOrReturn_77 (fun H locs hP hD hS => ?_)
                obtain ⟨hP, hD⟩ := pP_P_sp hP hD
                refine lv_iconst (v := 5) hx hb dX4_popOrReturn_80 (by decide) ?_
                exact W.iret (v := 5) hx hb hr (fun t ht hW => ⟨⟨5, (sPW_P_sp u (f_X4_pair u 2)), rfl, ⟨(by simp only [f_X4_popOrReturn, if_neg c1, if_neg c2, if_neg c3, if_neg c4, if_neg c5, if_neg c6, if_pos c7]), (by simp only [f_X4_popOrReturn, if_neg c1, if_neg c2, if_neg c3, if_neg c4, if_neg c5, if_neg c6, if_pos c7])⟩, by rw [ht]; exact hP, va_K.moved hW.alike hK, hD⟩, hS.F ht⟩) hS.2.2 dX4_popOrReturn_81
              · skip
                refine lv_tableOut (tgt := 82) hx hb dX4_popOrReturn_1 (by have r1 := lv_neT c1 (a := 1) (by decide); have r2 := lv_neT c2 (a := 2) (by decide); have r3 := lv_neT c3 (a := 3) (by decide); have r4 := lv_neT c4 (a := 4) (by decide); have r5 := lv_neT c5 (a := 5) (by decide); have r6 := lv_neT c6 (a := 6) (by decide); have r7 := lv_neT c7 (a := 7) (by decide); omega) (by decide) ?_
                refine lv_aload_n hx hb dX4_popOrReturn_82 rfl (lv_at hl 0 rfl) ?_
                refine lv_iload_n hx hb dX4_popOrReturn_83 rfl (lv_at hl 1 rfl) ?_
                refine lv_iconst (v := 1) hx hb dX4_popOrReturn_84 (by decide) ?_
                refine lv_ishr hx hb dX4_popOrReturn_85 ?_
                refine lv_aload_n hx hb dX4_popOrReturn_86 rfl (lv_at hl 0 rfl) ?_
                obtain ⟨hPc, hDc, hFc⟩ := xP_P hP hD hS hA
                have hKc := hK.sub (tys' := [(cI, .int)]) [0] rfl
                refine va_calli (va_runV (As := []) (rest := [.int (a1 >>> ((1 : Int32) &&& 31)), .ref pO]) ⟨hx, hb, hml, hown, hts⟩ (k_X4_pop l dC dI cI pO mS mA dS dA cO iA oA kO fO aO rA H.size u) (cwV 0 hts gX4_popOrReturn_X4_pop rfl rfl rfl (by decide +kernel) ⟨Nat.le_of_ble_eq_true rfl, Nat.le_of_ble_eq_true rfl⟩) ⟨fun a U g mk q => by obtain ⟨q0, q1, qP, qK, qD⟩ := q; exact ⟨q0, q1, qP, va_K.moved (u := U) (U := U.calling g mk a) (Vm.Alike.refl U.vm) qK, qD⟩, va_recv hKc hPc (ci := 4) (q0 := 0) rfl rfl, fun U hU hW => ⟨rfl, by rw [hU], by rw [hU]; exact hPc, va_K.moved hW.alike hKc, hDc.weaken (fun _ _ _ _ => trivial)⟩⟩ rfl rfl hl.1 rfl (lv_room (Nat.le_of_ble_eq_true rfl)) dX4_popOrReturn_87 ⟨Nat.le_of_ble_eq_true rfl, Nat.le_of_ble_eq_true rfl⟩) hS (fun q _ h => hFc q h) hFc (fun r9 u9 t H1 locs ht hvm hw hB hz1 hk1 hS => ?_)
                obtain ⟨rfl, rfl⟩ := hw
                obtain ⟨hP1, hK1, hD1⟩ := hB
                rw [ht] at hP1
                obtain ⟨hP, hD⟩ := jP_P hP hD hk1 hFc hP1 hD1
                clear hPc hDc hKc hFc hz1 hk1 hP1 hK1 hD1 ht hvm
                generalize H1 = H at hP hS ⊢
                obtain ⟨hPc, hDc, hFc⟩ := xP_P hP hD hS hA
                have hKc := hK.sub (tys' := [(cI, .int)]) [0] rfl
                refine va_callv (va_runV (As := [.int (a1 >>> ((1 : Int32) &&& 31)), .int (f_X4_pop u).1]) (rest := []) ⟨hx, hb, hml, hown, hts⟩ (k_X4_setPair l dC dI cI pO mS mA dS dA cO iA oA kO fO aO rA H.size (f_X4_pop u).2 (a1 >>> ((1 : Int32) &&& 31)) (f_X4_pop u).1 (in_shr1 h1)) (cwV 2 hts gX4_popOrReturn_X4_setPair rfl rfl rfl (by decide +kernel) ⟨Nat.le_of_ble_eq_true rfl, Nat.le_of_ble_eq_true rfl⟩) ⟨fun a U g mk q => by obtain ⟨q0, q1, qP, qK, qD⟩ := q; exact ⟨q0, q1, qP, va_K.moved (u := U) (U := U.calling g mk a) (Vm.Alike.refl U.vm) qK, qD⟩, va_recv hKc hPc (ci := 4) (q0 := 0) rfl rfl, fun U hU hW => ⟨rfl, by rw [hU], by rw [hU]; exact hPc, va_K.moved hW.alike hKc, hDc.weaken (fun _ _ _ _ => trivial)⟩⟩ rfl rfl hl.1 rfl (lv_room (Nat.le_of_ble_eq_true rfl)) dX4_popOrReturn_90 ⟨Nat.le_of_ble_eq_true rfl, Nat.le_of_ble_eq_true rfl⟩) hS (fun q _ h => hFc q h) hFc (fun u9 t H1 locs ht hvm hw hB hz1 hk1 hS => ?_)
                subst hw
                obtain ⟨hP1, hK1, hD1⟩ := hB
                rw [ht] at hP1
                obtain ⟨hP, hD⟩ := jP_P hP hD hk1 hFc hP1 hD1
                clear hPc hDc hKc hFc hz1 hk1 hP1 hK1 hD1 ht hvm
                generalize H1 = H at hP hS ⊢
                refine lv_bipush (v := 10) hx hb dX4_popOrReturn_93 (by decide) ?_
                exact W.iret (v := 10) hx hb hr (fun t ht hW => ⟨⟨10, (f_X4_setPair (f_X4_pop u).2 (a1 >>> ((1 : Int32) &&& 31)) (f_X4_pop u).1), rfl, ⟨(by simp only [f_X4_popOrReturn, if_neg c1, if_neg c2, if_neg c3, if_neg c4, if_neg c5, if_neg c6, if_neg c7]), (by simp only [f_X4_popOrReturn, if_neg c1, if_neg c2, if_neg c3, if_neg c4, if_neg c5, if_neg c6, if_neg c7])⟩, by rw [ht]; exact hP, va_K.moved hW.alike hK, hD⟩, hS.F ht⟩) hS.2.2 dX4_popOrReturn_95

def f_X4_jumpIf (u : PW) (a1 : Bool) : Int32 × PW := 
  if (bI a1) = (0 : Int32) then (10, (f_X4_nextWord u).2)
  else (10, (sPW_P_pc (f_X4_nextWord u).2 (f_X4_nextWord u).1))
theorem qX4_jumpIf_0 : Cond.fieldLink RX4 51 "DiskMachine$Processor" "pc" "I" ∈ wsX4_jumpIf := by decide +kernel
theorem iX4_jumpIf_X4 : ∀ w ∈ wsX40, w ∈ wsX4_jumpIf := by decide +kernel
set_option maxHeartbeats 4000000 in
set_option maxRecDepth 100000 in
theorem k_X4_jumpIf (l : Launch) (dC : Nat → ClassId) (dI : Nat → Nat → Nat) (cI : ClassId) (pO mS mA dS dA cO iA oA kO fO aO rA : Nat) (sz : Nat) (u : PW) (a1 : Bool) : Met l yX4_jumpIf wsX4_jumpIf ({ frames := 2, cells := 0, slots := 0, locals := 42 }) (va_Pc [.ref pO, .int (bI a1)] (wB dC dI [(cI, .int)] sz (wP cI pO mS mA dS dA cO iA oA kO fO aO rA u))) (va_Qi (fun (r : Int32) (u' : PW) => r = (f_X4_jumpIf u a1).1 ∧ u' = (f_X4_jumpIf u a1).2) (fun u' => wE dC dI [(cI, .int)] (va_A (wP cI pO mS mA dS dA cO iA oA kO fO aO rA u) sz) (wP cI pO mS mA dS dA cO iA oA kO fO aO rA u')) (va_A (wP cI pO mS mA dS dA cO iA oA kO fO aO rA u) sz)) 0 0 (va_A (wP cI pO mS mA dS dA cO iA oA kO fO aO rA u) sz) := by
  refine Met.ofW (cc := cX4_jumpIf) (maxL := 3) (ret := (some .int)) (by decide) rfl ?_
  intro p e s m args below meth c s₁ B hml hv
  obtain ⟨rfl, hsz, hP, hK, hD0⟩ := hv
  have hx := B.exec
  have hb := B.bytes
  have hr := B.returns
  have hts := atoms_spec (ws := wsX4_jumpIf) B.pre
  have hown : s.vm.findClass RX4 = some m.cls := findClass_of_methodNamed B.named
  have hlocks := B.notSynchronized
  subst hsz
  have hD := hD0.self (sz := s.heap.size)
  generalize hAe : va_A (wP cI pO mS mA dS dA cO iA oA kO fO aO rA u) s.heap.size = A at hD ⊢
  have hA : ∀ q : Nat, s.heap.size ≤ q → A q := fun q h => by rw [← hAe]; exact Or.inr h
  have hS : va_S A s.heap s.heap [] := va_S.rf
  have hP : va_P (dC, dI) vwCl (wP cI pO mS mA dS dA cO iA oA kO fO aO rA u) s.heap := hP
  clear hAe hD0
  have hl := lv_entry ([.ref pO, .int (bI a1)]) (n := 3) (Nat.le_of_ble_eq_true rfl)
  rw [lg_entry_eq]
  generalize (lg_sl ([.ref pO, .int (bI a1)]) ++ List.replicate (3 - (lg_sl ([.ref pO, .int (bI a1)])).length) Slot.unset).toArray = ls at hl ⊢
  have hl : lv_has ls 3 [(0, .ref pO), (1, .int (bI a1))] := hl
  refine jn_H hP hS (fun H locs hP hS => ?_)
  refine lv_aload_n hx hb dX4_jumpIf_0 rfl (lv_at hl 0 rfl) ?_
  obtain ⟨hPc, hDc, hFc⟩ := xP_P hP hD hS hA
  have hKc := hK.sub (tys' := [(cI, .int)]) [0] rfl
  refine va_calli (va_runV (As := []) (rest := []) ⟨hx, hb, hml, hown, hts⟩ (k_X4_nextWord l dC dI cI pO mS mA dS dA cO iA oA kO fO aO rA H.size u) (cwV 0 hts gX4_jumpIf_X4_nextWord rfl rfl rfl (by decide +kernel) ⟨Nat.le_of_ble_eq_true rfl, Nat.le_of_ble_eq_true rfl⟩) ⟨fun a U g mk q => by obtain ⟨q0, q1, qP, qK, qD⟩ := q; exact ⟨q0, q1, qP, va_K.moved (u := U) (U := U.calling g mk a) (Vm.Alike.refl U.vm) qK, qD⟩, va_recv hKc hPc (ci := 4) (q0 := 0) rfl rfl, fun U hU hW => ⟨rfl, by rw [hU], by rw [hU]; exact hPc, va_K.moved hW.alike hKc, hDc.weaken (fun _ _ _ _ => trivial)⟩⟩ rfl rfl hl.1 rfl (lv_room (Nat.le_of_ble_eq_true rfl)) dX4_jumpIf_1 ⟨Nat.le_of_ble_eq_true rfl, Nat.le_of_ble_eq_true rfl⟩) hS (fun q _ h => hFc q h) hFc (fun r9 u9 t H1 locs ht hvm hw hB hz1 hk1 hS => ?_)
  obtain ⟨rfl, rfl⟩ := hw
  obtain ⟨hP1, hK1, hD1⟩ := hB
  rw [ht] at hP1
  obtain ⟨hP, hD⟩ := jP_P hP hD hk1 hFc hP1 hD1
  clear hPc hDc hKc hFc hz1 hk1 hP1 hK1 hD1 ht hvm
  generalize H1 = H at hP hS ⊢
  refine lv_istore_n (lv' := [(2, .int (f_X4_nextWord u).1), (0, .ref pO), (1, .int (bI a1))]) hx hb dX4_jumpIf_4 rfl hl (by decide) rfl (fun ls hl => ?_)
  refine lv_iload_n hx hb dX4_jumpIf_5 rfl (lv_at hl 2 rfl) ?_
  refine lv_if_eq (tgt := 14) hx hb dX4_jumpIf_6 (by decide) (fun c1 => ?_) (fun c1 => ?_)
  · skip
    refine lv_bipush (v := 10) hx hb dX4_jumpIf_14 (by decide) ?_
    exact W.iret (v := 10) hx hb hr (fun t ht hW => ⟨⟨10, (f_X4_nextWord u).2, rfl, ⟨(by simp only [f_X4_jumpIf, if_pos c1]), (by simp only [f_X4_jumpIf, if_pos c1])⟩, by rw [ht]; exact hP, va_K.moved hW.alike hK, hD⟩, hS.F ht⟩) hS.2.2 dX4_jumpIf_16
  · skip
    refine lv_aload_n hx hb dX4_jumpIf_9 rfl (lv_at hl 1 rfl) ?_
    refine lv_iload_n hx hb dX4_jumpIf_10 rfl (lv_at hl 0 rfl) ?_
    refine va_put (D := (dC, dI)) (ci := 4) (v := .int (f_X4_nextWord u).1) (ty := .int) (C := RX4) (T := TX4) (N := 13) hx hb hts iX4_jumpIf_X4 tyX4 tyX4_ok nmX4 hown hK hP hD hS 0 rfl rfl 6 (by decide) (hts _ qX4_jumpIf_0) (fun _ h9 => h9) rfl (by decide +kernel) rfl rfl (Nat.le_of_ble_eq_true rfl) dX4_jumpIf_11 (fun H locs hP hD hS => ?_)
    obtain ⟨hP, hD⟩ := pP_P_pc hP hD
    refine lv_bipush (v := 10) hx hb dX4_jumpIf_14 (by decide) ?_
    exact W.iret (v := 10) hx hb hr (fun t ht hW => ⟨⟨10, (sPW_P_pc (f_X4_nextWord u).2 (f_X4_nextWord u).1), rfl, ⟨(by simp only [f_X4_jumpIf, if_neg c1]), (by simp only [f_X4_jumpIf, if_neg c1])⟩, by rw [ht]; exact hP, va_K.moved hW.alike hK, hD⟩, hS.F ht⟩) hS.2.2 dX4_jumpIf_16

def f_X4_callIf (u : PW) (a1 : Bool) : Int32 × PW := 
  if (bI a1) = (0 : Int32) then (11, (f_X4_nextWord u).2)
  else (17, (sPW_P_pc (f_X4_push (f_X4_nextWord u).2 (gPW_P_pc (f_X4_nextWord u).2)) (f_X4_nextWord u).1))
theorem qX4_callIf_0 : Cond.fieldLink RX4 51 "DiskMachine$Processor" "pc" "I" ∈ wsX4_callIf := by decide +kernel
theorem iX4_callIf_X4 : ∀ w ∈ wsX40, w ∈ wsX4_callIf := by decide +kernel
set_option maxHeartbeats 4000000 in
set_option maxRecDepth 100000 in
theorem k_X4_callIf (l : Launch) (dC : Nat → ClassId) (dI : Nat → Nat → Nat) (cI : ClassId) (pO mS mA dS dA cO iA oA kO fO aO rA : Nat) (sz : Nat) (u : PW) (a1 : Bool) : Met l yX4_callIf wsX4_callIf ({ frames := 2, cells := 0, slots := 0, locals := 43 }) (va_Pc [.ref pO, .int (bI a1)] (wB dC dI [(cI, .int)] sz (wP cI pO mS mA dS dA cO iA oA kO fO aO rA u))) (va_Qi (fun (r : Int32) (u' : PW) => r = (f_X4_callIf u a1).1 ∧ u' = (f_X4_callIf u a1).2) (fun u' => wE dC dI [(cI, .int)] (va_A (wP cI pO mS mA dS dA cO iA oA kO fO aO rA u) sz) (wP cI pO mS mA dS dA cO iA oA kO fO aO rA u')) (va_A (wP cI pO mS mA dS dA cO iA oA kO fO aO rA u) sz)) 0 0 (va_A (wP cI pO mS mA dS dA cO iA oA kO fO aO rA u) sz) := by
  refine Met.ofW (cc := cX4_callIf) (maxL := 3) (ret := (some .int)) (by decide) rfl ?_
  intro p e s m args below meth c s₁ B hml hv
  obtain ⟨rfl, hsz, hP, hK, hD0⟩ := hv
  have hx := B.exec
  have hb := B.bytes
  have hr := B.returns
  have hts := atoms_spec (ws := wsX4_callIf) B.pre
  have hown : s.vm.findClass RX4 = some m.cls := findClass_of_methodNamed B.named
  have hlocks := B.notSynchronized
  subst hsz
  have hD := hD0.self (sz := s.heap.size)
  generalize hAe : va_A (wP cI pO mS mA dS dA cO iA oA kO fO aO rA u) s.heap.size = A at hD ⊢
  have hA : ∀ q : Nat, s.heap.size ≤ q → A q := fun q h => by rw [← hAe]; exact Or.inr h
  have hS : va_S A s.heap s.heap [] := va_S.rf
  have hP : va_P (dC, dI) vwCl (wP cI pO mS mA dS dA cO iA oA kO fO aO rA u) s.heap := hP
  clear hAe hD0
  have hl := lv_entry ([.ref pO, .int (bI a1)]) (n := 3) (Nat.le_of_ble_eq_true rfl)
  rw [lg_entry_eq]
  generalize (lg_sl ([.ref pO, .int (bI a1)]) ++ List.replicate (3 - (lg_sl ([.ref pO, .int (bI a1)])).length) Slot.unset).toArray = ls at hl ⊢
  have hl : lv_has ls 3 [(0, .ref pO), (1, .int (bI a1))] := hl
  refine jn_H hP hS (fun H locs hP hS => ?_)
  refine lv_aload_n hx hb dX4_callIf_0 rfl (lv_at hl 0 rfl) ?_
  obtain ⟨hPc, hDc, hFc⟩ := xP_P hP hD hS hA
  have hKc := hK.sub (tys' := [(cI, .int)]) [0] rfl
  refine va_calli (va_runV (As := []) (rest := []) ⟨hx, hb, hml, hown, hts⟩ (k_X4_nextWord l dC dI cI pO mS mA dS dA cO iA oA kO fO aO rA H.size u) (cwV 0 hts gX4_callIf_X4_nextWord rfl rfl rfl (by decide +kernel) ⟨Nat.le_of_ble_eq_true rfl, Nat.le_of_ble_eq_true rfl⟩) ⟨fun a U g mk q => by obtain ⟨q0, q1, qP, qK, qD⟩ := q; exact ⟨q0, q1, qP, va_K.moved (u := U) (U := U.calling g mk a) (Vm.Alike.refl U.vm) qK, qD⟩, va_recv hKc hPc (ci := 4) (q0 := 0) rfl rfl, fun U hU hW => ⟨rfl, by rw [hU], by rw [hU]; exact hPc, va_K.moved hW.alike hKc, hDc.weaken (fun _ _ _ _ => trivial)⟩⟩ rfl rfl hl.1 rfl (lv_room (Nat.le_of_ble_eq_true rfl)) dX4_callIf_1 ⟨Nat.le_of_ble_eq_true rfl, Nat.le_of_ble_eq_true rfl⟩) hS (fun q _ h => hFc q h) hFc (fun r9 u9 t H1 locs ht hvm hw hB hz1 hk1 hS => ?_)
  obtain ⟨rfl, rfl⟩ := hw
  obtain ⟨hP1, hK1, hD1⟩ := hB
  rw [ht] at hP1
  obtain ⟨hP, hD⟩ := jP_P hP hD hk1 hFc hP1 hD1
  clear hPc hDc hKc hFc hz1 hk1 hP1 hK1 hD1 ht hvm
  generalize H1 = H at hP hS ⊢
  refine lv_istore_n (lv' := [(2, .int (f_X4_nextWord u).1), (0, .ref pO), (1, .int (bI a1))]) hx hb dX4_callIf_4 rfl hl (by decide) rfl (fun ls hl => ?_)
  refine lv_iload_n hx hb dX4_callIf_5 rfl (lv_at hl 2 rfl) ?_
  refine lv_if_ne (tgt := 12) hx hb dX4_callIf_6 (by decide) (fun c1 => ?_) (fun c1 => ?_)
  · skip
    refine lv_aload_n hx hb dX4_callIf_12 rfl (lv_at hl 1 rfl) ?_
    refine lv_aload_n hx hb dX4_callIf_13 rfl (lv_at hl 1 rfl) ?_
    refine va_get (D := (dC, dI)) (ci := 4) (v := .int (gPW_P_pc (f_X4_nextWord u).2)) (C := RX4) (T := TX4) (N := 13) hx hb hts iX4_callIf_X4 hown hK hP 0 rfl rfl 6 (by decide) (hts _ qX4_callIf_0) (fun _ h9 => h9) rfl dX4_callIf_14 ?_
    obtain ⟨hPc, hDc, hFc⟩ := xP_P hP hD hS hA
    have hKc := hK.sub (tys' := [(cI, .int)]) [0] rfl
    refine va_callv (va_runV (As := [.int (gPW_P_pc (f_X4_nextWord u).2)]) (rest := []) ⟨hx, hb, hml, hown, hts⟩ (k_X4_push l dC dI cI pO mS mA dS dA cO iA oA kO fO aO rA H.size (f_X4_nextWord u).2 (gPW_P_pc (f_X4_nextWord u).2)) (cwV 1 hts gX4_callIf_X4_push rfl rfl rfl (by decide +kernel) ⟨Nat.le_of_ble_eq_true rfl, Nat.le_of_ble_eq_true rfl⟩) ⟨fun a U g mk q => by obtain ⟨q0, q1, qP, qK, qD⟩ := q; exact ⟨q0, q1, qP, va_K.moved (u := U) (U := U.calling g mk a) (Vm.Alike.refl U.vm) qK, qD⟩, va_recv hKc hPc (ci := 4) (q0 := 0) rfl rfl, fun U hU hW => ⟨rfl, by rw [hU], by rw [hU]; exact hPc, va_K.moved hW.alike hKc, hDc.weaken (fun _ _ _ _ => trivial)⟩⟩ rfl rfl hl.1 rfl (lv_room (Nat.le_of_ble_eq_true rfl)) dX4_callIf_17 ⟨Nat.le_of_ble_eq_true rfl, Nat.le_of_ble_eq_true rfl⟩) hS (fun q _ h => hFc q h) hFc (fun u9 t H1 locs ht hvm hw hB hz1 hk1 hS => ?_)
    subst hw
    obtain ⟨hP1, hK1, hD1⟩ := hB
    rw [ht] at hP1
    obtain ⟨hP, hD⟩ := jP_P hP hD hk1 hFc hP1 hD1
    clear hPc hDc hKc hFc hz1 hk1 hP1 hK1 hD1 ht hvm
    generalize H1 = H at hP hS ⊢
    refine lv_aload_n hx hb dX4_callIf_20 rfl (lv_at hl 1 rfl) ?_
    refine lv_iload_n hx hb dX4_callIf_21 rfl (lv_at hl 0 rfl) ?_
    refine va_put (D := (dC, dI)) (ci := 4) (v := .int (f_X4_nextWord u).1) (ty := .int) (C := RX4) (T := TX4) (N := 13) hx hb hts iX4_callIf_X4 tyX4 tyX4_ok nmX4 hown hK hP hD hS 0 rfl rfl 6 (by decide) (hts _ qX4_callIf_0) (fun _ h9 => h9) rfl (by decide +kernel) rfl rfl (Nat.le_of_ble_eq_true rfl) dX4_callIf_22 (fun H locs hP hD hS => ?_)
    obtain ⟨hP, hD⟩ := pP_P_pc hP hD
    refine lv_bipush (v := 17) hx hb dX4_callIf_25 (by decide) ?_
    exact W.iret (v := 17) hx hb hr (fun t ht hW => ⟨⟨17, (sPW_P_pc (f_X4_push (f_X4_nextWord u).2 (gPW_P_pc (f_X4_nextWord u).2)) (f_X4_nextWord u).1), rfl, ⟨(by simp only [f_X4_callIf, if_neg c1]), (by simp only [f_X4_callIf, if_neg c1])⟩, by rw [ht]; exact hP, va_K.moved hW.alike hK, hD⟩, hS.F ht⟩) hS.2.2 dX4_callIf_27
  · skip
    refine lv_bipush (v := 11) hx hb dX4_callIf_9 (by decide) ?_
    exact W.iret (v := 11) hx hb hr (fun t ht hW => ⟨⟨11, (f_X4_nextWord u).2, rfl, ⟨(by simp only [f_X4_callIf, if_pos c1]), (by simp only [f_X4_callIf, if_pos c1])⟩, by rw [ht]; exact hP, va_K.moved hW.alike hK, hD⟩, hS.F ht⟩) hS.2.2 dX4_callIf_11

def f_X4_pushPair (u : PW) (a1 : Int32) : Int32 × PW := (11, (f_X4_push u (if a1 = (6 : Int32) then ((((gPW_P_r u) (7 : Int32).toNatClampNeg) <<< ((8 : Int32) &&& 31)) ||| (f_X3_packed (gPW_F u))) else (f_X4_pair u (a1 >>> ((1 : Int32) &&& 31))) : Int32)))
theorem qX4_pushPair_0 : Cond.fieldLink RX4 27 "DiskMachine$Processor" "registers" "[I" ∈ wsX4_pushPair := by decide +kernel
theorem qX4_pushPair_1 : Cond.fieldLink RX4 12 "DiskMachine$Processor" "flags" "LDiskMachine$Flags;" ∈ wsX4_pushPair := by decide +kernel
theorem iX4_pushPair_X4 : ∀ w ∈ wsX40, w ∈ wsX4_pushPair := by decide +kernel
set_option maxHeartbeats 4000000 in
set_option maxRecDepth 100000 in
theorem k_X4_pushPair (l : Launch) (dC : Nat → ClassId) (dI : Nat → Nat → Nat) (cI : ClassId) (pO mS mA dS dA cO iA oA kO fO aO rA : Nat) (sz : Nat) (u : PW) (a1 : Int32) (h1 : vp_in a1 8) : Met l yX4_pushPair wsX4_pushPair ({ frames := 2, cells := 0, slots := 0, locals := 43 }) (va_Pc [.ref pO, .int a1] (wB dC dI [(cI, .int)] sz (wP cI pO mS mA dS dA cO iA oA kO fO aO rA u))) (va_Qi (fun (r : Int32) (u' : PW) => r = (f_X4_pushPair u a1).1 ∧ u' = (f_X4_pushPair u a1).2) (fun u' => wE dC dI [(cI, .int)] (va_A (wP cI pO mS mA dS dA cO iA oA kO fO aO rA u) sz) (wP cI pO mS mA dS dA cO iA oA kO fO aO rA u')) (va_A (wP cI pO mS mA dS dA cO iA oA kO fO aO rA u) sz)) 0 0 (va_A (wP cI pO mS mA dS dA cO iA oA kO fO aO rA u) sz) := by
  refine Met.ofW (cc := cX4_pushPair) (maxL := 2) (ret := (some .int)) (by decide) rfl ?_
  intro p e s m args below meth c s₁ B hml hv
  obtain ⟨rfl, hsz, hP, hK, hD0⟩ := hv
  have hx := B.exec
  have hb := B.bytes
  have hr := B.returns
  have hts := atoms_spec (ws := wsX4_pushPair) B.pre
  have hown : s.vm.findClass RX4 = some m.cls := findClass_of_methodNamed B.named
  have hlocks := B.notSynchronized
  subst hsz
  have hD := hD0.self (sz := s.heap.size)
  generalize hAe : va_A (wP cI pO mS mA dS dA cO iA oA kO fO aO rA u) s.heap.size = A at hD ⊢
  have hA : ∀ q : Nat, s.heap.size ≤ q → A q := fun q h => by rw [← hAe]; exact Or.inr h
  have hS : va_S A s.heap s.heap [] := va_S.rf
  have hP : va_P (dC, dI) vwCl (wP cI pO mS mA dS dA cO iA oA kO fO aO rA u) s.heap := hP
  clear hAe hD0
  have hl := lv_entry ([.ref pO, .int a1]) (n := 2) (Nat.le_of_ble_eq_true rfl)
  rw [lg_entry_eq]
  generalize (lg_sl ([.ref pO, .int a1]) ++ List.replicate (2 - (lg_sl ([.ref pO, .int a1])).length) Slot.unset).toArray = ls at hl ⊢
  have hl : lv_has ls 2 [(0, .ref pO), (1, .int a1)] := hl
  refine jn_H hP hS (fun H locs hP hS => ?_)
  refine lv_aload_n hx hb dX4_pushPair_0 rfl (lv_at hl 0 rfl) ?_
  refine lv_iload_n hx hb dX4_pushPair_1 rfl (lv_at hl 1 rfl) ?_
  refine lv_bipush (v := 6) hx hb dX4_pushPair_2 (by decide) ?_
  refine jn_i (D := (dC, dI)) (cl := vwCl) (ws := (wP cI pO mS mA dS dA cO iA oA kO fO aO rA u)) (A := A) (H0 := s.heap) (nL := 2) 35 (if a1 = (6 : Int32) then ((((gPW_P_r u) (7 : Int32).toNatClampNeg) <<< ((8 : Int32) &&& 31)) ||| (f_X3_packed (gPW_F u))) else (f_X4_pair u (a1 >>> ((1 : Int32) &&& 31))) : Int32) [(0, .ref pO), (1, .int a1)] [.ref pO] (fun H locs ls hP hS hl => ?_) (fun hJ1 => ?_)
  · skip
    obtain ⟨hPc, hDc, hFc⟩ := xP_P hP hD hS hA
    have hKc := hK.sub (tys' := [(cI, .int)]) [0] rfl
    refine va_callv (va_runV (As := [.int (if a1 = (6 : Int32) then ((((gPW_P_r u) (7 : Int32).toNatClampNeg) <<< ((8 : Int32) &&& 31)) ||| (f_X3_packed (gPW_F u))) else (f_X4_pair u (a1 >>> ((1 : Int32) &&& 31))) : Int32)]) (rest := []) ⟨hx, hb, hml, hown, hts⟩ (k_X4_push l dC dI cI pO mS mA dS dA cO iA oA kO fO aO rA H.size u (if a1 = (6 : Int32) then ((((gPW_P_r u) (7 : Int32).toNatClampNeg) <<< ((8 : Int32) &&& 31)) ||| (f_X3_packed (gPW_F u))) else (f_X4_pair u (a1 >>> ((1 : Int32) &&& 31))) : Int32)) (cwV 1 hts gX4_pushPair_X4_push rfl rfl rfl (by decide +kernel) ⟨Nat.le_of_ble_eq_true rfl, Nat.le_of_ble_eq_true rfl⟩) ⟨fun a U g mk q => by obtain ⟨q0, q1, qP, qK, qD⟩ := q; exact ⟨q0, q1, qP, va_K.moved (u := U) (U := U.calling g mk a) (Vm.Alike.refl U.vm) qK, qD⟩, va_recv hKc hPc (ci := 4) (q0 := 0) rfl rfl, fun U hU hW => ⟨rfl, by rw [hU], by rw [hU]; exact hPc, va_K.moved hW.alike hKc, hDc.weaken (fun _ _ _ _ => trivial)⟩⟩ rfl rfl hl.1 rfl (lv_room (Nat.le_of_ble_eq_true rfl)) dX4_pushPair_35 ⟨Nat.le_of_ble_eq_true rfl, Nat.le_of_ble_eq_true rfl⟩) hS (fun q _ h => hFc q h) hFc (fun u9 t H1 locs ht hvm hw hB hz1 hk1 hS => ?_)
    subst hw
    obtain ⟨hP1, hK1, hD1⟩ := hB
    rw [ht] at hP1
    obtain ⟨hP, hD⟩ := jP_P hP hD hk1 hFc hP1 hD1
    clear hPc hDc hKc hFc hz1 hk1 hP1 hK1 hD1 ht hvm
    generalize H1 = H at hP hS ⊢
    refine lv_bipush (v := 11) hx hb dX4_pushPair_38 (by decide) ?_
    exact W.iret (v := 11) hx hb hr (fun t ht hW => ⟨⟨11, (f_X4_push u (if a1 = (6 : Int32) then ((((gPW_P_r u) (7 : Int32).toNatClampNeg) <<< ((8 : Int32) &&& 31)) ||| (f_X3_packed (gPW_F u))) else (f_X4_pair u (a1 >>> ((1 : Int32) &&& 31))) : Int32)), rfl, ⟨rfl, rfl⟩, by rw [ht]; exact hP, va_K.moved hW.alike hK, hD⟩, hS.F ht⟩) hS.2.2 dX4_pushPair_40
  · skip
    refine lv_icmp_ne (tgt := 28) hx hb dX4_pushPair_4 (by decide) (fun c2 => ?_) (fun c2 => ?_)
    · skip
      refine lv_aload_n hx hb dX4_pushPair_28 rfl (lv_at hl 0 rfl) ?_
      refine lv_iload_n hx hb dX4_pushPair_29 rfl (lv_at hl 1 rfl) ?_
      refine lv_iconst (v := 1) hx hb dX4_pushPair_30 (by decide) ?_
      refine lv_ishr hx hb dX4_pushPair_31 ?_
      obtain ⟨hPc, hDc, hFc⟩ := xP_P hP hD hS hA
      have hKc := hK.sub (tys' := [(cI, .int)]) [0] rfl
      refine va_calli (va_runV (As := [.int (a1 >>> ((1 : Int32) &&& 31))]) (rest := [.ref pO]) ⟨hx, hb, hml, hown, hts⟩ (k_X4_pair l dC dI cI pO mS mA dS dA cO iA oA kO fO aO rA H.size u (a1 >>> ((1 : Int32) &&& 31)) (in_shr1 h1)) (cwV 1 hts gX4_pushPair_X4_pair rfl rfl rfl (by decide +kernel) ⟨Nat.le_of_ble_eq_true rfl, Nat.le_of_ble_eq_true rfl⟩) ⟨fun a U g mk q => by obtain ⟨q0, q1, qP, qK, qD⟩ := q; exact ⟨q0, q1, qP, va_K.moved (u := U) (U := U.calling g mk a) (Vm.Alike.refl U.vm) qK, qD⟩, va_recv hKc hPc (ci := 4) (q0 := 0) rfl rfl, fun U hU hW => ⟨rfl, by rw [hU], by rw [hU]; exact hPc, va_K.moved hW.alike hKc, hDc.weaken (fun _ _ _ _ => trivial)⟩⟩ rfl rfl hl.1 rfl (lv_room (Nat.le_of_ble_eq_true rfl)) dX4_pushPair_32 ⟨Nat.le_of_ble_eq_true rfl, Nat.le_of_ble_eq_true rfl⟩) hS (fun q _ h => hFc q h) hFc (fun r9 u9 t H1 locs ht hvm hw hB hz1 hk1 hS => ?_)
      obtain ⟨hw1, hw2⟩ := hw
      have hw2 := hw2.symm
      subst hw1 hw2
      obtain ⟨hP1, hK1, hD1⟩ := hB
      rw [ht] at hP1
      obtain ⟨hP, hD⟩ := jP_P0 hP hD hk1 hFc hP1 hD1
      clear hPc hDc hKc hFc hz1 hk1 hP1 hK1 hD1 ht hvm
      generalize H1 = H at hP hS ⊢
      exact hJ1 (f_X4_pair u (a1 >>> ((1 : Int32) &&& 31))) _ _ _ (by simp only [if_neg c2]) hP hS (lv_sub hl [0, 1] rfl)
    · skip
      refine lv_aload_n hx hb dX4_pushPair_7 rfl (lv_at hl 0 rfl) ?_
      refine va_get (D := (dC, dI)) (ci := 4) (v := .ref rA) (C := RX4) (T := TX4) (N := 13) hx hb hts iX4_pushPair_X4 hown hK hP 0 rfl rfl 5 (by decide) (hts _ qX4_pushPair_0) (fun _ h9 => h9) rfl dX4_pushPair_8 ?_
      refine lv_bipush (v := 7) hx hb dX4_pushPair_11 (by decide) ?_
      refine va_iald (f := (gPW_P_r u)) hx hb hK hP 11 0 rfl rfl (ix_lit (by decide)) dX4_pushPair_13 ?_
      refine lv_bipush (v := 8) hx hb dX4_pushPair_14 (by decide) ?_
      refine lv_ishl hx hb dX4_pushPair_16 ?_
      refine lv_aload_n hx hb dX4_pushPair_17 rfl (lv_at hl 0 rfl) ?_
      refine va_get (D := (dC, dI)) (ci := 4) (v := .ref fO) (C := RX4) (T := TX4) (N := 13) hx hb hts iX4_pushPair_X4 hown hK hP 0 rfl rfl 3 (by decide) (hts _ qX4_pushPair_1) (fun _ h9 => h9) rfl dX4_pushPair_18 ?_
      obtain ⟨hPc, hDc, hFc⟩ := xP_F hP hD hS hA
      have hKc := hK.sub (tys' := [(cI, .int)]) [0] rfl
      refine va_calli (va_runV (As := []) (rest := [.int (((gPW_P_r u) (7 : Int32).toNatClampNeg) <<< ((8 : Int32) &&& 31)), .ref pO]) ⟨hx, hb, hml, hown, hts⟩ (k_X3_packed l dC dI cI fO H.size (gPW_F u)) (cwV 0 hts gX4_pushPair_X3_packed rfl rfl rfl (by decide +kernel) ⟨Nat.le_of_ble_eq_true rfl, Nat.le_of_ble_eq_true rfl⟩) ⟨fun a U g mk q => by obtain ⟨q0, q1, qP, qK, qD⟩ := q; exact ⟨q0, q1, qP, va_K.moved (u := U) (U := U.calling g mk a) (Vm.Alike.refl U.vm) qK, qD⟩, va_recv hKc hPc (ci := 3) (q0 := 0) rfl rfl, fun U hU hW => ⟨rfl, by rw [hU], by rw [hU]; exact hPc, va_K.moved hW.alike hKc, hDc.weaken (fun _ _ _ _ => trivial)⟩⟩ rfl rfl hl.1 rfl (lv_room (Nat.le_of_ble_eq_true rfl)) dX4_pushPair_21 ⟨Nat.le_of_ble_eq_true rfl, Nat.le_of_ble_eq_true rfl⟩) hS (fun q _ h => hFc q h) hFc (fun r9 u9 t H1 locs ht hvm hw hB hz1 hk1 hS => ?_)
      obtain ⟨hw1, hw2⟩ := hw
      have hw2 := hw2.symm
      subst hw1 hw2
      obtain ⟨hP1, hK1, hD1⟩ := hB
      rw [ht] at hP1
      obtain ⟨hP, hD⟩ := jP_F0 hP hD hk1 hFc hP1 hD1
      clear hPc hDc hKc hFc hz1 hk1 hP1 hK1 hD1 ht hvm
      generalize H1 = H at hP hS ⊢
      refine lv_ior hx hb dX4_pushPair_24 ?_
      refine lv_goto (tgt := 35) hx hb dX4_pushPair_25 (by decide) ?_
      exact hJ1 ((((gPW_P_r u) (7 : Int32).toNatClampNeg) <<< ((8 : Int32) &&& 31)) ||| (f_X3_packed (gPW_F u))) _ _ _ (by simp only [if_pos c2]) hP hS (lv_sub hl [0, 1] rfl)

def f_X4_swapWithStack (u : PW) : Int32 × PW := (18, (f_X4_setPair (sPW_m u (f_X5_setWord (gPW_m u) (gPW_P_sp u) (f_X4_pair u 2))) 2 (f_X5_wordAt (gPW_m u) (gPW_P_sp u))))
theorem qX4_swapWithStack_0 : Cond.fieldLink RX4 35 "DiskMachine$Processor" "memory" "LDiskMachine$Store;" ∈ wsX4_swapWithStack := by decide +kernel
theorem qX4_swapWithStack_1 : Cond.fieldLink RX4 54 "DiskMachine$Processor" "sp" "I" ∈ wsX4_swapWithStack := by decide +kernel
theorem iX4_swapWithStack_X4 : ∀ w ∈ wsX40, w ∈ wsX4_swapWithStack := by decide +kernel
set_option maxHeartbeats 4000000 in
set_option maxRecDepth 100000 in
theorem k_X4_swapWithStack (l : Launch) (dC : Nat → ClassId) (dI : Nat → Nat → Nat) (cI : ClassId) (pO mS mA dS dA cO iA oA kO fO aO rA : Nat) (sz : Nat) (u : PW) : Met l yX4_swapWithStack wsX4_swapWithStack ({ frames := 1, cells := 0, slots := 0, locals := 22 }) (va_Pc [.ref pO] (wB dC dI [(cI, .int)] sz (wP cI pO mS mA dS dA cO iA oA kO fO aO rA u))) (va_Qi (fun (r : Int32) (u' : PW) => r = (f_X4_swapWithStack u).1 ∧ u' = (f_X4_swapWithStack u).2) (fun u' => wE dC dI [(cI, .int)] (va_A (wP cI pO mS mA dS dA cO iA oA kO fO aO rA u) sz) (wP cI pO mS mA dS dA cO iA oA kO fO aO rA u')) (va_A (wP cI pO mS mA dS dA cO iA oA kO fO aO rA u) sz)) 0 0 (va_A (wP cI pO mS mA dS dA cO iA oA kO fO aO rA u) sz) := by
  refine Met.ofW (cc := cX4_swapWithStack) (maxL := 2) (ret := (some .int)) (by decide) rfl ?_
  intro p e s m args below meth c s₁ B hml hv
  obtain ⟨rfl, hsz, hP, hK, hD0⟩ := hv
  have hx := B.exec
  have hb := B.bytes
  have hr := B.returns
  have hts := atoms_spec (ws := wsX4_swapWithStack) B.pre
  have hown : s.vm.findClass RX4 = some m.cls := findClass_of_methodNamed B.named
  have hlocks := B.notSynchronized
  subst hsz
  have hD := hD0.self (sz := s.heap.size)
  generalize hAe : va_A (wP cI pO mS mA dS dA cO iA oA kO fO aO rA u) s.heap.size = A at hD ⊢
  have hA : ∀ q : Nat, s.heap.size ≤ q → A q := fun q h => by rw [← hAe]; exact Or.inr h
  have hS : va_S A s.heap s.heap [] := va_S.rf
  have hP : va_P (dC, dI) vwCl (wP cI pO mS mA dS dA cO iA oA kO fO aO rA u) s.heap := hP
  clear hAe hD0
  have hl := lv_entry ([.ref pO]) (n := 2) (Nat.le_of_ble_eq_true rfl)
  rw [lg_entry_eq]
  generalize (lg_sl ([.ref pO]) ++ List.replicate (2 - (lg_sl ([.ref pO])).length) Slot.unset).toArray = ls at hl ⊢
  have hl : lv_has ls 2 [(0, .ref pO)] := hl
  refine jn_H hP hS (fun H locs hP hS => ?_)
  refine lv_aload_n hx hb dX4_swapWithStack_0 rfl (lv_at hl 0 rfl) ?_
  refine va_get (D := (dC, dI)) (ci := 4) (v := .ref mS) (C := RX4) (T := TX4) (N := 13) hx hb hts iX4_swapWithStack_X4 hown hK hP 0 rfl rfl 0 (by decide) (hts _ qX4_swapWithStack_0) (fun _ h9 => h9) rfl dX4_swapWithStack_1 ?_
  refine lv_aload_n hx hb dX4_swapWithStack_4 rfl (lv_at hl 0 rfl) ?_
  refine va_get (D := (dC, dI)) (ci := 4) (v := .int (gPW_P_sp u)) (C := RX4) (T := TX4) (N := 13) hx hb hts iX4_swapWithStack_X4 hown hK hP 0 rfl rfl 7 (by decide) (hts _ qX4_swapWithStack_1) (fun _ h9 => h9) rfl dX4_swapWithStack_5 ?_
  obtain ⟨hPc, hDc, hFc⟩ := xP_S_mS hP hD hS hA
  have hKc := hK.sub (tys' := [(cI, .int)]) [0] rfl
  refine va_calli (va_runV (As := [.int (gPW_P_sp u)]) (rest := []) ⟨hx, hb, hml, hown, hts⟩ (k_X5_wordAt l dC dI cI mS mA H.size (gPW_m u) (gPW_P_sp u)) (cwV 1 hts gX4_swapWithStack_X5_wordAt rfl rfl rfl (by decide +kernel) ⟨Nat.le_of_ble_eq_true rfl, Nat.le_of_ble_eq_true rfl⟩) ⟨fun a U g mk q => by obtain ⟨q0, q1, qP, qK, qD⟩ := q; exact ⟨q0, q1, qP, va_K.moved (u := U) (U := U.calling g mk a) (Vm.Alike.refl U.vm) qK, qD⟩, va_recv hKc hPc (ci := 5) (q0 := 0) rfl rfl, fun U hU hW => ⟨rfl, by rw [hU], by rw [hU]; exact hPc, va_K.moved hW.alike hKc, hDc.weaken (fun _ _ _ _ => trivial)⟩⟩ rfl rfl hl.1 rfl (lv_room (Nat.le_of_ble_eq_true rfl)) dX4_swapWithStack_8 ⟨Nat.le_of_ble_eq_true rfl, Nat.le_of_ble_eq_true rfl⟩) hS (fun q _ h => hFc q h) hFc (fun r9 u9 t H1 locs ht hvm hw hB hz1 hk1 hS => ?_)
  obtain ⟨hw1, hw2⟩ := hw
  have hw2 := hw2.symm
  subst hw1 hw2
  obtain ⟨hP1, hK1, hD1⟩ := hB
  rw [ht] at hP1
  obtain ⟨hP, hD⟩ := jP_S_mS0 hP hD hk1 hFc hP1 hD1
  clear hPc hDc hKc hFc hz1 hk1 hP1 hK1 hD1 ht hvm
  generalize H1 = H at hP hS ⊢
  refine lv_istore_n (lv' := [(1, .int (f_X5_wordAt (gPW_m u) (gPW_P_sp u))), (0, .ref pO)]) hx hb dX4_swapWithStack_11 rfl hl (by decide) rfl (fun ls hl => ?_)
  refine lv_aload_n hx hb dX4_swapWithStack_12 rfl (lv_at hl 1 rfl) ?_
  refine va_get (D := (dC, dI)) (ci := 4) (v := .ref mS) (C := RX4) (T := TX4) (N := 13) hx hb hts iX4_swapWithStack_X4 hown hK hP 0 rfl rfl 0 (by decide) (hts _ qX4_swapWithStack_0) (fun _ h9 => h9) rfl dX4_swapWithStack_13 ?_
  refine lv_aload_n hx hb dX4_swapWithStack_16 rfl (lv_at hl 1 rfl) ?_
  refine va_get (D := (dC, dI)) (ci := 4) (v := .int (gPW_P_sp u)) (C := RX4) (T := TX4) (N := 13) hx hb hts iX4_swapWithStack_X4 hown hK hP 0 rfl rfl 7 (by decide) (hts _ qX4_swapWithStack_1) (fun _ h9 => h9) rfl dX4_swapWithStack_17 ?_
  refine lv_aload_n hx hb dX4_swapWithStack_20 rfl (lv_at hl 1 rfl) ?_
  refine lv_iconst (v := 2) hx hb dX4_swapWithStack_21 (by decide) ?_
  obtain ⟨hPc, hDc, hFc⟩ := xP_P hP hD hS hA
  have hKc := hK.sub (tys' := [(cI, .int)]) [0] rfl
  refine va_calli (va_runV (As := [.int 2]) (rest := [.int (gPW_P_sp u), .ref mS]) ⟨hx, hb, hml, hown, hts⟩ (k_X4_pair l dC dI cI pO mS mA dS dA cO iA oA kO fO aO rA H.size u 2 (ix_lit (by decide))) (cwV 1 hts gX4_swapWithStack_X4_pair rfl rfl rfl (by decide +kernel) ⟨Nat.le_of_ble_eq_true rfl, Nat.le_of_ble_eq_true rfl⟩) ⟨fun a U g mk q => by obtain ⟨q0, q1, qP, qK, qD⟩ := q; exact ⟨q0, q1, qP, va_K.moved (u := U) (U := U.calling g mk a) (Vm.Alike.refl U.vm) qK, qD⟩, va_recv hKc hPc (ci := 4) (q0 := 0) rfl rfl, fun U hU hW => ⟨rfl, by rw [hU], by rw [hU]; exact hPc, va_K.moved hW.alike hKc, hDc.weaken (fun _ _ _ _ => trivial)⟩⟩ rfl rfl hl.1 rfl (lv_room (Nat.le_of_ble_eq_true rfl)) dX4_swapWithStack_22 ⟨Nat.le_of_ble_eq_true rfl, Nat.le_of_ble_eq_true rfl⟩) hS (fun q _ h => hFc q h) hFc (fun r9 u9 t H1 locs ht hvm hw hB hz1 hk1 hS => ?_)
  obtain ⟨hw1, hw2⟩ := hw
  have hw2 := hw2.symm
  subst hw1 hw2
  obtain ⟨hP1, hK1, hD1⟩ := hB
  rw [ht] at hP1
  obtain ⟨hP, hD⟩ := jP_P0 hP hD hk1 hFc hP1 hD1
  clear hPc hDc hKc hFc hz1 hk1 hP1 hK1 hD1 ht hvm
  generalize H1 = H at hP hS ⊢
  obtain ⟨hPc, hDc, hFc⟩ := xP_S_mS hP hD hS hA
  have hKc := hK.sub (tys' := [(cI, .int)]) [0] rfl
  refine va_callv (va_runV (As := [.int (gPW_P_sp u), .int (f_X4_pair u 2)]) (rest := []) ⟨hx, hb, hml, hown, hts⟩ (k_X5_setWord l dC dI cI mS mA H.size (gPW_m u) (gPW_P_sp u) (f_X4_pair u 2)) (cwV 2 hts gX4_swapWithStack_X5_setWord rfl rfl rfl (by decide +kernel) ⟨Nat.le_of_ble_eq_true rfl, Nat.le_of_ble_eq_true rfl⟩) ⟨fun a U g mk q => by obtain ⟨q0, q1, qP, qK, qD⟩ := q; exact ⟨q0, q1, qP, va_K.moved (u := U) (U := U.calling g mk a) (Vm.Alike.refl U.vm) qK, qD⟩, va_recv hKc hPc (ci := 5) (q0 := 0) rfl rfl, fun U hU hW => ⟨rfl, by rw [hU], by rw [hU]; exact hPc, va_K.moved hW.alike hKc, hDc.weaken (fun _ _ _ _ => trivial)⟩⟩ rfl rfl hl.1 rfl (lv_room (Nat.le_of_ble_eq_true rfl)) dX4_swapWithStack_25 ⟨Nat.le_of_ble_eq_true rfl, Nat.le_of_ble_eq_true rfl⟩) hS (fun q _ h => hFc q h) hFc (fun u9 t H1 locs ht hvm hw hB hz1 hk1 hS => ?_)
  subst hw
  obtain ⟨hP1, hK1, hD1⟩ := hB
  rw [ht] at hP1
  obtain ⟨hP, hD⟩ := jP_S_mS hP hD hk1 hFc hP1 hD1
  clear hPc hDc hKc hFc hz1 hk1 hP1 hK1 hD1 ht hvm
  generalize H1 = H at hP hS ⊢
  refine lv_aload_n hx hb dX4_swapWithStack_28 rfl (lv_at hl 1 rfl) ?_
  refine lv_iconst (v := 2) hx hb dX4_swapWithStack_29 (by decide) ?_
  refine lv_iload_n hx hb dX4_swapWithStack_30 rfl (lv_at hl 0 rfl) ?_
  obtain ⟨hPc, hDc, hFc⟩ := xP_P hP hD hS hA
  have hKc := hK.sub (tys' := [(cI, .int)]) [0] rfl
  refine va_callv (va_runV (As := [.int 2, .int (f_X5_wordAt (gPW_m u) (gPW_P_sp u))]) (rest := []) ⟨hx, hb, hml, hown, hts⟩ (k_X4_setPair l dC dI cI pO mS mA dS dA cO iA oA kO fO aO rA H.size (sPW_m u (f_X5_setWord (gPW_m u) (gPW_P_sp u) (f_X4_pair u 2))) 2 (f_X5_wordAt (gPW_m u) (gPW_P_sp u)) (ix_lit (by decide))) (cwV 2 hts gX4_swapWithStack_X4_setPair rfl rfl rfl (by decide +kernel) ⟨Nat.le_of_ble_eq_true rfl, Nat.le_of_ble_eq_true rfl⟩) ⟨fun a U g mk q => by obtain ⟨q0, q1, qP, qK, qD⟩ := q; exact ⟨q0, q1, qP, va_K.moved (u := U) (U := U.calling g mk a) (Vm.Alike.refl U.vm) qK, qD⟩, va_recv hKc hPc (ci := 4) (q0 := 0) rfl rfl, fun U hU hW => ⟨rfl, by rw [hU], by rw [hU]; exact hPc, va_K.moved hW.alike hKc, hDc.weaken (fun _ _ _ _ => trivial)⟩⟩ rfl rfl hl.1 rfl (lv_room (Nat.le_of_ble_eq_true rfl)) dX4_swapWithStack_31 ⟨Nat.le_of_ble_eq_true rfl, Nat.le_of_ble_eq_true rfl⟩) hS (fun q _ h => hFc q h) hFc (fun u9 t H1 locs ht hvm hw hB hz1 hk1 hS => ?_)
  subst hw
  obtain ⟨hP1, hK1, hD1⟩ := hB
  rw [ht] at hP1
  obtain ⟨hP, hD⟩ := jP_P hP hD hk1 hFc hP1 hD1
  clear hPc hDc hKc hFc hz1 hk1 hP1 hK1 hD1 ht hvm
  generalize H1 = H at hP hS ⊢
  refine lv_bipush (v := 18) hx hb dX4_swapWithStack_34 (by decide) ?_
  exact W.iret (v := 18) hx hb hr (fun t ht hW => ⟨⟨18, (f_X4_setPair (sPW_m u (f_X5_setWord (gPW_m u) (gPW_P_sp u) (f_X4_pair u 2))) 2 (f_X5_wordAt (gPW_m u) (gPW_P_sp u))), rfl, ⟨rfl, rfl⟩, by rw [ht]; exact hP, va_K.moved hW.alike hK, hD⟩, hS.F ht⟩) hS.2.2 dX4_swapWithStack_36

def f_X4_swapPairs (u : PW) : Int32 × PW := (4, (f_X4_setPair (f_X4_setPair u 1 (f_X4_pair u 2)) 2 (f_X4_pair u 1)))

set_option maxHeartbeats 4000000 in
set_option maxRecDepth 100000 in
theorem k_X4_swapPairs (l : Launch) (dC : Nat → ClassId) (dI : Nat → Nat → Nat) (cI : ClassId) (pO mS mA dS dA cO iA oA kO fO aO rA : Nat) (sz : Nat) (u : PW) : Met l yX4_swapPairs wsX4_swapPairs ({ frames := 1, cells := 0, slots := 0, locals := 22 }) (va_Pc [.ref pO] (wB dC dI [(cI, .int)] sz (wP cI pO mS mA dS dA cO iA oA kO fO aO rA u))) (va_Qi (fun (r : Int32) (u' : PW) => r = (f_X4_swapPairs u).1 ∧ u' = (f_X4_swapPairs u).2) (fun u' => wE dC dI [(cI, .int)] (va_A (wP cI pO mS mA dS dA cO iA oA kO fO aO rA u) sz) (wP cI pO mS mA dS dA cO iA oA kO fO aO rA u')) (va_A (wP cI pO mS mA dS dA cO iA oA kO fO aO rA u) sz)) 0 0 (va_A (wP cI pO mS mA dS dA cO iA oA kO fO aO rA u) sz) := by
  refine Met.ofW (cc := cX4_swapPairs) (maxL := 2) (ret := (some .int)) (by decide) rfl ?_
  intro p e s m args below meth c s₁ B hml hv
  obtain ⟨rfl, hsz, hP, hK, hD0⟩ := hv
  have hx := B.exec
  have hb := B.bytes
  have hr := B.returns
  have hts := atoms_spec (ws := wsX4_swapPairs) B.pre
  have hown : s.vm.findClass RX4 = some m.cls := findClass_of_methodNamed B.named
  have hlocks := B.notSynchronized
  subst hsz
  have hD := hD0.self (sz := s.heap.size)
  generalize hAe : va_A (wP cI pO mS mA dS dA cO iA oA kO fO aO rA u) s.heap.size = A at hD ⊢
  have hA : ∀ q : Nat, s.heap.size ≤ q → A q := fun q h => by rw [← hAe]; exact Or.inr h
  have hS : va_S A s.heap s.heap [] := va_S.rf
  have hP : va_P (dC, dI) vwCl (wP cI pO mS mA dS dA cO iA oA kO fO aO rA u) s.heap := hP
  clear hAe hD0
  have hl := lv_entry ([.ref pO]) (n := 2) (Nat.le_of_ble_eq_true rfl)
  rw [lg_entry_eq]
  generalize (lg_sl ([.ref pO]) ++ List.replicate (2 - (lg_sl ([.ref pO])).length) Slot.unset).toArray = ls at hl ⊢
  have hl : lv_has ls 2 [(0, .ref pO)] := hl
  refine jn_H hP hS (fun H locs hP hS => ?_)
  refine lv_aload_n hx hb dX4_swapPairs_0 rfl (lv_at hl 0 rfl) ?_
  refine lv_iconst (v := 1) hx hb dX4_swapPairs_1 (by decide) ?_
  obtain ⟨hPc, hDc, hFc⟩ := xP_P hP hD hS hA
  have hKc := hK.sub (tys' := [(cI, .int)]) [0] rfl
  refine va_calli (va_runV (As := [.int 1]) (rest := []) ⟨hx, hb, hml, hown, hts⟩ (k_X4_pair l dC dI cI pO mS mA dS dA cO iA oA kO fO aO rA H.size u 1 (ix_lit (by decide))) (cwV 1 hts gX4_swapPairs_X4_pair rfl rfl rfl (by decide +kernel) ⟨Nat.le_of_ble_eq_true rfl, Nat.le_of_ble_eq_true rfl⟩) ⟨fun a U g mk q => by obtain ⟨q0, q1, qP, qK, qD⟩ := q; exact ⟨q0, q1, qP, va_K.moved (u := U) (U := U.calling g mk a) (Vm.Alike.refl U.vm) qK, qD⟩, va_recv hKc hPc (ci := 4) (q0 := 0) rfl rfl, fun U hU hW => ⟨rfl, by rw [hU], by rw [hU]; exact hPc, va_K.moved hW.alike hKc, hDc.weaken (fun _ _ _ _ => trivial)⟩⟩ rfl rfl hl.1 rfl (lv_room (Nat.le_of_ble_eq_true rfl)) dX4_swapPairs_2 ⟨Nat.le_of_ble_eq_true rfl, Nat.le_of_ble_eq_true rfl⟩) hS (fun q _ h => hFc q h) hFc (fun r9 u9 t H1 locs ht hvm hw hB hz1 hk1 hS => ?_)
  obtain ⟨hw1, hw2⟩ := hw
  have hw2 := hw2.symm
  subst hw1 hw2
  obtain ⟨hP1, hK1, hD1⟩ := hB
  rw [ht] at hP1
  obtain ⟨hP, hD⟩ := jP_P0 hP hD hk1 hFc hP1 hD1
  clear hPc hDc hKc hFc hz1 hk1 hP1 hK1 hD1 ht hvm
  generalize H1 = H at hP hS ⊢
  refine lv_istore_n (lv' := [(1, .int (f_X4_pair u 1)), (0, .ref pO)]) hx hb dX4_swapPairs_5 rfl hl (by decide) rfl (fun ls hl => ?_)
  refine lv_aload_n hx hb dX4_swapPairs_6 rfl (lv_at hl 1 rfl) ?_
  refine lv_iconst (v := 1) hx hb dX4_swapPairs_7 (by decide) ?_
  refine lv_aload_n hx hb dX4_swapPairs_8 rfl (lv_at hl 1 rfl) ?_
  refine lv_iconst (v := 2) hx hb dX4_swapPairs_9 (by decide) ?_
  obtain ⟨hPc, hDc, hFc⟩ := xP_P hP hD hS hA
  have hKc := hK.sub (tys' := [(cI, .int)]) [0] rfl
  refine va_calli (va_runV (As := [.int 2]) (rest := [.int 1, .ref pO]) ⟨hx, hb, hml, hown, hts⟩ (k_X4_pair l dC dI cI pO mS mA dS dA cO iA oA kO fO aO rA H.size u 2 (ix_lit (by decide))) (cwV 1 hts gX4_swapPairs_X4_pair rfl rfl rfl (by decide +kernel) ⟨Nat.le_of_ble_eq_true rfl, Nat.le_of_ble_eq_true rfl⟩) ⟨fun a U g mk q => by obtain ⟨q0, q1, qP, qK, qD⟩ := q; exact ⟨q0, q1, qP, va_K.moved (u := U) (U := U.calling g mk a) (Vm.Alike.refl U.vm) qK, qD⟩, va_recv hKc hPc (ci := 4) (q0 := 0) rfl rfl, fun U hU hW => ⟨rfl, by rw [hU], by rw [hU]; exact hPc, va_K.moved hW.alike hKc, hDc.weaken (fun _ _ _ _ => trivial)⟩⟩ rfl rfl hl.1 rfl (lv_room (Nat.le_of_ble_eq_true rfl)) dX4_swapPairs_10 ⟨Nat.le_of_ble_eq_true rfl, Nat.le_of_ble_eq_true rfl⟩) hS (fun q _ h => hFc q h) hFc (fun r9 u9 t H1 locs ht hvm hw hB hz1 hk1 hS => ?_)
  obtain ⟨hw1, hw2⟩ := hw
  have hw2 := hw2.symm
  subst hw1 hw2
  obtain ⟨hP1, hK1, hD1⟩ := hB
  rw [ht] at hP1
  obtain ⟨hP, hD⟩ := jP_P0 hP hD hk1 hFc hP1 hD1
  clear hPc hDc hKc hFc hz1 hk1 hP1 hK1 hD1 ht hvm
  generalize H1 = H at hP hS ⊢
  obtain ⟨hPc, hDc, hFc⟩ := xP_P hP hD hS hA
  have hKc := hK.sub (tys' := [(cI, .int)]) [0] rfl
  refine va_callv (va_runV (As := [.int 1, .int (f_X4_pair u 2)]) (rest := []) ⟨hx, hb, hml, hown, hts⟩ (k_X4_setPair l dC dI cI pO mS mA dS dA cO iA oA kO fO aO rA H.size u 1 (f_X4_pair u 2) (ix_lit (by decide))) (cwV 2 hts gX4_swapPairs_X4_setPair rfl rfl rfl (by decide +kernel) ⟨Nat.le_of_ble_eq_true rfl, Nat.le_of_ble_eq_true rfl⟩) ⟨fun a U g mk q => by obtain ⟨q0, q1, qP, qK, qD⟩ := q; exact ⟨q0, q1, qP, va_K.moved (u := U) (U := U.calling g mk a) (Vm.Alike.refl U.vm) qK, qD⟩, va_recv hKc hPc (ci := 4) (q0 := 0) rfl rfl, fun U hU hW => ⟨rfl, by rw [hU], by rw [hU]; exact hPc, va_K.moved hW.alike hKc, hDc.weaken (fun _ _ _ _ => trivial)⟩⟩ rfl rfl hl.1 rfl (lv_room (Nat.le_of_ble_eq_true rfl)) dX4_swapPairs_13 ⟨Nat.le_of_ble_eq_true rfl, Nat.le_of_ble_eq_true rfl⟩) hS (fun q _ h => hFc q h) hFc (fun u9 t H1 locs ht hvm hw hB hz1 hk1 hS => ?_)
  subst hw
  obtain ⟨hP1, hK1, hD1⟩ := hB
  rw [ht] at hP1
  obtain ⟨hP, hD⟩ := jP_P hP hD hk1 hFc hP1 hD1
  clear hPc hDc hKc hFc hz1 hk1 hP1 hK1 hD1 ht hvm
  generalize H1 = H at hP hS ⊢
  refine lv_aload_n hx hb dX4_swapPairs_16 rfl (lv_at hl 1 rfl) ?_
  refine lv_iconst (v := 2) hx hb dX4_swapPairs_17 (by decide) ?_
  refine lv_iload_n hx hb dX4_swapPairs_18 rfl (lv_at hl 0 rfl) ?_
  obtain ⟨hPc, hDc, hFc⟩ := xP_P hP hD hS hA
  have hKc := hK.sub (tys' := [(cI, .int)]) [0] rfl
  refine va_callv (va_runV (As := [.int 2, .int (f_X4_pair u 1)]) (rest := []) ⟨hx, hb, hml, hown, hts⟩ (k_X4_setPair l dC dI cI pO mS mA dS dA cO iA oA kO fO aO rA H.size (f_X4_setPair u 1 (f_X4_pair u 2)) 2 (f_X4_pair u 1) (ix_lit (by decide))) (cwV 2 hts gX4_swapPairs_X4_setPair rfl rfl rfl (by decide +kernel) ⟨Nat.le_of_ble_eq_true rfl, Nat.le_of_ble_eq_true rfl⟩) ⟨fun a U g mk q => by obtain ⟨q0, q1, qP, qK, qD⟩ := q; exact ⟨q0, q1, qP, va_K.moved (u := U) (U := U.calling g mk a) (Vm.Alike.refl U.vm) qK, qD⟩, va_recv hKc hPc (ci := 4) (q0 := 0) rfl rfl, fun U hU hW => ⟨rfl, by rw [hU], by rw [hU]; exact hPc, va_K.moved hW.alike hKc, hDc.weaken (fun _ _ _ _ => trivial)⟩⟩ rfl rfl hl.1 rfl (lv_room (Nat.le_of_ble_eq_true rfl)) dX4_swapPairs_19 ⟨Nat.le_of_ble_eq_true rfl, Nat.le_of_ble_eq_true rfl⟩) hS (fun q _ h => hFc q h) hFc (fun u9 t H1 locs ht hvm hw hB hz1 hk1 hS => ?_)
  subst hw
  obtain ⟨hP1, hK1, hD1⟩ := hB
  rw [ht] at hP1
  obtain ⟨hP, hD⟩ := jP_P hP hD hk1 hFc hP1 hD1
  clear hPc hDc hKc hFc hz1 hk1 hP1 hK1 hD1 ht hvm
  generalize H1 = H at hP hS ⊢
  refine lv_iconst (v := 4) hx hb dX4_swapPairs_22 (by decide) ?_
  exact W.iret (v := 4) hx hb hr (fun t ht hW => ⟨⟨4, (f_X4_setPair (f_X4_setPair u 1 (f_X4_pair u 2)) 2 (f_X4_pair u 1)), rfl, ⟨rfl, rfl⟩, by rw [ht]; exact hP, va_K.moved hW.alike hK, hD⟩, hS.F ht⟩) hS.2.2 dX4_swapPairs_23

def f_X4_sendToPort (u : PW) (a1 : Int32) (a2 : Int32) : PW := 
  if a1 = 1 then (sPW_C u (f_X1_append (gPW_C u) a2))
  else 
    if a1 = 2 then (sPW_KW u (f_X2_setSector (gPW_KW u) a2))
    else 
      if a1 = 3 then (sPW_KW u (f_X2_setLowAddress (gPW_KW u) a2))
      else 
        if a1 = 4 then (sPW_KW u (f_X2_setHighAddress (gPW_KW u) a2))
        else 
          if a1 = 5 then (sPW_KW u (f_X2_setCall (gPW_KW u) a2))
          else 
            if a1 = 6 then (sPW_KW u (f_X2_command (gPW_KW u) a2))
            else u
theorem qX4_sendToPort_0 : Cond.fieldLink RX4 43 "DiskMachine$Processor" "controller" "LDiskMachine$Controller;" ∈ wsX4_sendToPort := by decide +kernel
theorem qX4_sendToPort_1 : Cond.fieldLink RX4 39 "DiskMachine$Processor" "console" "LDiskMachine$Console;" ∈ wsX4_sendToPort := by decide +kernel
theorem iX4_sendToPort_X4 : ∀ w ∈ wsX40, w ∈ wsX4_sendToPort := by decide +kernel
set_option maxHeartbeats 4000000 in
set_option maxRecDepth 100000 in
theorem k_X4_sendToPort (l : Launch) (dC : Nat → ClassId) (dI : Nat → Nat → Nat) (cI : ClassId) (pO mS mA dS dA cO iA oA kO fO aO rA : Nat) (sz : Nat) (u : PW) (a1 : Int32) (a2 : Int32) : Met l yX4_sendToPort wsX4_sendToPort ({ frames := 2, cells := 0, slots := 0, locals := 42 }) (va_Pc [.ref pO, .int a1, .int a2] (wB dC dI [(cI, .int)] sz (wP cI pO mS mA dS dA cO iA oA kO fO aO rA u))) (va_Qv (fun u' : PW => u' = (f_X4_sendToPort u a1 a2)) (fun u' => wE dC dI [(cI, .int)] (va_A (wP cI pO mS mA dS dA cO iA oA kO fO aO rA u) sz) (wP cI pO mS mA dS dA cO iA oA kO fO aO rA u')) (va_A (wP cI pO mS mA dS dA cO iA oA kO fO aO rA u) sz)) 0 0 (va_A (wP cI pO mS mA dS dA cO iA oA kO fO aO rA u) sz) := by
  refine Met.ofW (cc := cX4_sendToPort) (maxL := 3) (ret := none) (by decide) rfl ?_
  intro p e s m args below meth c s₁ B hml hv
  obtain ⟨rfl, hsz, hP, hK, hD0⟩ := hv
  have hx := B.exec
  have hb := B.bytes
  have hr := B.returns
  have hts := atoms_spec (ws := wsX4_sendToPort) B.pre
  have hown : s.vm.findClass RX4 = some m.cls := findClass_of_methodNamed B.named
  have hlocks := B.notSynchronized
  subst hsz
  have hD := hD0.self (sz := s.heap.size)
  generalize hAe : va_A (wP cI pO mS mA dS dA cO iA oA kO fO aO rA u) s.heap.size = A at hD ⊢
  have hA : ∀ q : Nat, s.heap.size ≤ q → A q := fun q h => by rw [← hAe]; exact Or.inr h
  have hS : va_S A s.heap s.heap [] := va_S.rf
  have hP : va_P (dC, dI) vwCl (wP cI pO mS mA dS dA cO iA oA kO fO aO rA u) s.heap := hP
  clear hAe hD0
  have hl := lv_entry ([.ref pO, .int a1, .int a2]) (n := 3) (Nat.le_of_ble_eq_true rfl)
  rw [lg_entry_eq]
  generalize (lg_sl ([.ref pO, .int a1, .int a2]) ++ List.replicate (3 - (lg_sl ([.ref pO, .int a1, .int a2])).length) Slot.unset).toArray = ls at hl ⊢
  have hl : lv_has ls 3 [(0, .ref pO), (1, .int a1), (2, .int a2)] := hl
  refine jn_H hP hS (fun H locs hP hS => ?_)
  refine lv_iload_n hx hb dX4_sendToPort_0 rfl (lv_at hl 1 rfl) ?_
  by_cases c1 : a1 = 1
  · refine tb_in (k := 1) (off := 39) (tgt := 40) hx hb dX4_sendToPort_1 c1 (by decide) (by decide) (by decide) (by decide) ?_
    refine lv_aload_n hx hb dX4_sendToPort_40 rfl (lv_at hl 0 rfl) ?_
    refine va_get (D := (dC, dI)) (ci := 4) (v := .ref cO) (C := RX4) (T := TX4) (N := 13) hx hb hts iX4_sendToPort_X4 hown hK hP 0 rfl rfl 1 (by decide) (hts _ qX4_sendToPort_1) (fun _ h9 => h9) rfl dX4_sendToPort_41 ?_
    refine lv_iload_n hx hb dX4_sendToPort_44 rfl (lv_at hl 2 rfl) ?_
    obtain ⟨hPc, hDc, hFc⟩ := xP_C hP hD hS hA
    have hKc := hK.sub (tys' := [(cI, .int)]) [0] rfl
    refine va_callv (va_runV (As := [.int a2]) (rest := []) ⟨hx, hb, hml, hown, hts⟩ (k_X1_append l dC dI cI cO iA oA H.size (gPW_C u) a2) (cwV 1 hts gX4_sendToPort_X1_append rfl rfl rfl (by decide +kernel) ⟨Nat.le_of_ble_eq_true rfl, Nat.le_of_ble_eq_true rfl⟩) ⟨fun a U g mk q => by obtain ⟨q0, q1, qP, qK, qD⟩ := q; exact ⟨q0, q1, qP, va_K.moved (u := U) (U := U.calling g mk a) (Vm.Alike.refl U.vm) qK, qD⟩, va_recv hKc hPc (ci := 1) (q0 := 0) rfl rfl, fun U hU hW => ⟨rfl, by rw [hU], by rw [hU]; exact hPc, va_K.moved hW.alike hKc, hDc.weaken (fun _ _ _ _ => trivial)⟩⟩ rfl rfl hl.1 rfl (lv_room (Nat.le_of_ble_eq_true rfl)) dX4_sendToPort_45 ⟨Nat.le_of_ble_eq_true rfl, Nat.le_of_ble_eq_true rfl⟩) hS (fun q _ h => hFc q h) hFc (fun u9 t H1 locs ht hvm hw hB hz1 hk1 hS => ?_)
    subst hw
    obtain ⟨hP1, hK1, hD1⟩ := hB
    rw [ht] at hP1
    obtain ⟨hP, hD⟩ := jP_C hP hD hk1 hFc hP1 hD1
    clear hPc hDc hKc hFc hz1 hk1 hP1 hK1 hD1 ht hvm
    generalize H1 = H at hP hS ⊢
    refine lv_goto (tgt := 106) hx hb dX4_sendToPort_48 (by decide) ?_
    exact W.vret hx hb hr (fun t ht hW => ⟨⟨(sPW_C u (f_X1_append (gPW_C u) a2)), rfl, (by simp only [f_X4_sendToPort, if_pos c1]), by rw [ht]; exact hP, va_K.moved hW.alike hK, hD⟩, hS.F ht⟩) hS.2.2 dX4_sendToPort_106
  · skip
    by_cases c2 : a1 = 2
    · refine tb_in (k := 2) (off := 50) (tgt := 51) hx hb dX4_sendToPort_1 c2 (by decide) (by decide) (by decide) (by decide) ?_
      refine lv_aload_n hx hb dX4_sendToPort_51 rfl (lv_at hl 0 rfl) ?_
      refine va_get (D := (dC, dI)) (ci := 4) (v := .ref kO) (C := RX4) (T := TX4) (N := 13) hx hb hts iX4_sendToPort_X4 hown hK hP 0 rfl rfl 2 (by decide) (hts _ qX4_sendToPort_0) (fun _ h9 => h9) rfl dX4_sendToPort_52 ?_
      refine lv_iload_n hx hb dX4_sendToPort_55 rfl (lv_at hl 2 rfl) ?_
      obtain ⟨hPc, hDc, hFc⟩ := xP_K hP hD hS hA
      have hKc := hK.sub (tys' := [(cI, .int)]) [0] rfl
      refine va_callv (va_runV (As := [.int a2]) (rest := []) ⟨hx, hb, hml, hown, hts⟩ (k_X2_setSector l dC dI cI kO mS mA dS dA H.size (gPW_KW u) a2) (cwV 1 hts gX4_sendToPort_X2_setSector rfl rfl rfl (by decide +kernel) ⟨Nat.le_of_ble_eq_true rfl, Nat.le_of_ble_eq_true rfl⟩) ⟨fun a U g mk q => by obtain ⟨q0, q1, qP, qK, qD⟩ := q; exact ⟨q0, q1, qP, va_K.moved (u := U) (U := U.calling g mk a) (Vm.Alike.refl U.vm) qK, qD⟩, va_recv hKc hPc (ci := 2) (q0 := 0) rfl rfl, fun U hU hW => ⟨rfl, by rw [hU], by rw [hU]; exact hPc, va_K.moved hW.alike hKc, hDc.weaken (fun _ _ _ _ => trivial)⟩⟩ rfl rfl hl.1 rfl (lv_room (Nat.le_of_ble_eq_true rfl)) dX4_sendToPort_56 ⟨Nat.le_of_ble_eq_true rfl, Nat.le_of_ble_eq_true rfl⟩) hS (fun q _ h => hFc q h) hFc (fun u9 t H1 locs ht hvm hw hB hz1 hk1 hS => ?_)
      subst hw
      obtain ⟨hP1, hK1, hD1⟩ := hB
      rw [ht] at hP1
      obtain ⟨hP, hD⟩ := jP_K hP hD hk1 hFc hP1 hD1
      clear hPc hDc hKc hFc hz1 hk1 hP1 hK1 hD1 ht hvm
      generalize H1 = H at hP hS ⊢
      refine lv_goto (tgt := 106) hx hb dX4_sendToPort_59 (by decide) ?_
      exact W.vret hx hb hr (fun t ht hW => ⟨⟨(sPW_KW u (f_X2_setSector (gPW_KW u) a2)), rfl, (by simp only [f_X4_sendToPort, if_neg c1, if_pos c2]), by rw [ht]; exact hP, va_K.moved hW.alike hK, hD⟩, hS.F ht⟩) hS.2.2 dX4_sendToPort_106
    · skip
      by_cases c3 : a1 = 3
      · refine tb_in (k := 3) (off := 61) (tgt := 62) hx hb dX4_sendToPort_1 c3 (by decide) (by decide) (by decide) (by decide) ?_
        refine lv_aload_n hx hb dX4_sendToPort_62 rfl (lv_at hl 0 rfl) ?_
        refine va_get (D := (dC, dI)) (ci := 4) (v := .ref kO) (C := RX4) (T := TX4) (N := 13) hx hb hts iX4_sendToPort_X4 hown hK hP 0 rfl rfl 2 (by decide) (hts _ qX4_sendToPort_0) (fun _ h9 => h9) rfl dX4_sendToPort_63 ?_
        refine lv_iload_n hx hb dX4_sendToPort_66 rfl (lv_at hl 2 rfl) ?_
        obtain ⟨hPc, hDc, hFc⟩ := xP_K hP hD hS hA
        have hKc := hK.sub (tys' := [(cI, .int)]) [0] rfl
        refine va_callv (va_runV (As := [.int a2]) (rest := []) ⟨hx, hb, hml, hown, hts⟩ (k_X2_setLowAddress l dC dI cI kO mS mA dS dA H.size (gPW_KW u) a2) (cwV 1 hts gX4_sendToPort_X2_setLowAddress rfl rfl rfl (by decide +kernel) ⟨Nat.le_of_ble_eq_true rfl, Nat.le_of_ble_eq_true rfl⟩) ⟨fun a U g mk q => by obtain ⟨q0, q1, qP, qK, qD⟩ := q; exact ⟨q0, q1, qP, va_K.moved (u := U) (U := U.calling g mk a) (Vm.Alike.refl U.vm) qK, qD⟩, va_recv hKc hPc (ci := 2) (q0 := 0) rfl rfl, fun U hU hW => ⟨rfl, by rw [hU], by rw [hU]; exact hPc, va_K.moved hW.alike hKc, hDc.weaken (fun _ _ _ _ => trivial)⟩⟩ rfl rfl hl.1 rfl (lv_room (Nat.le_of_ble_eq_true rfl)) dX4_sendToPort_67 ⟨Nat.le_of_ble_eq_true rfl, Nat.le_of_ble_eq_true rfl⟩) hS (fun q _ h => hFc q h) hFc (fun u9 t H1 locs ht hvm hw hB hz1 hk1 hS => ?_)
        subst hw
        obtain ⟨hP1, hK1, hD1⟩ := hB
        rw [ht] at hP1
        obtain ⟨hP, hD⟩ := jP_K hP hD hk1 hFc hP1 hD1
        clear hPc hDc hKc hFc hz1 hk1 hP1 hK1 hD1 ht hvm
        generalize H1 = H at hP hS ⊢
        refine lv_goto (tgt := 106) hx hb dX4_sendToPort_70 (by decide) ?_
        exact W.vret hx hb hr (fun t ht hW => ⟨⟨(sPW_KW u (f_X2_setLowAddress (gPW_KW u) a2)), rfl, (by simp only [f_X4_sendToPort, if_neg c1, if_neg c2, if_pos c3]), by rw [ht]; exact hP, va_K.moved hW.alike hK, hD⟩, hS.F ht⟩) hS.2.2 dX4_sendToPort_106
      · skip
        by_cases c4 : a1 = 4
        · refine tb_in (k := 4) (off := 72) (tgt := 73) hx hb dX4_sendToPort_1 c4 (by decide) (by decide) (by decide) (by decide) ?_
          refine lv_aload_n hx hb dX4_sendToPort_73 rfl (lv_at hl 0 rfl) ?_
          refine va_get (D := (dC, dI)) (ci := 4) (v := .ref kO) (C := RX4) (T := TX4) (N := 13) hx hb hts iX4_sendToPort_X4 hown hK hP 0 rfl rfl 2 (by decide) (hts _ qX4_sendToPort_0) (fun _ h9 => h9) rfl dX4_sendToPort_74 ?_
          refine lv_iload_n hx hb dX4_sendToPort_77 rfl (lv_at hl 2 rfl) ?_
          obtain ⟨hPc, hDc, hFc⟩ := xP_K hP hD hS hA
          have hKc := hK.sub (tys' := [(cI, .int)]) [0] rfl
          refine va_callv (va_runV (As := [.int a2]) (rest := []) ⟨hx, hb, hml, hown, hts⟩ (k_X2_setHighAddress l dC dI cI kO mS mA dS dA H.size (gPW_KW u) a2) (cwV 1 hts gX4_sendToPort_X2_setHighAddress rfl rfl rfl (by decide +kernel) ⟨Nat.le_of_ble_eq_true rfl, Nat.le_of_ble_eq_true rfl⟩) ⟨fun a U g mk q => by obtain ⟨q0, q1, qP, qK, qD⟩ := q; exact ⟨q0, q1, qP, va_K.moved (u := U) (U := U.calling g mk a) (Vm.Alike.refl U.vm) qK, qD⟩, va_recv hKc hPc (ci := 2) (q0 := 0) rfl rfl, fun U hU hW => ⟨rfl, by rw [hU], by rw [hU]; exact hPc, va_K.moved hW.alike hKc, hDc.weaken (fun _ _ _ _ => trivial)⟩⟩ rfl rfl hl.1 rfl (lv_room (Nat.le_of_ble_eq_true rfl)) dX4_sendToPort_78 ⟨Nat.le_of_ble_eq_true rfl, Nat.le_of_ble_eq_true rfl⟩) hS (fun q _ h => hFc q h) hFc (fun u9 t H1 locs ht hvm hw hB hz1 hk1 hS => ?_)
          subst hw
          obtain ⟨hP1, hK1, hD1⟩ := hB
          rw [ht] at hP1
          obtain ⟨hP, hD⟩ := jP_K hP hD hk1 hFc hP1 hD1
          clear hPc hDc hKc hFc hz1 hk1 hP1 hK1 hD1 ht hvm
          generalize H1 = H at hP hS ⊢
          refine lv_goto (tgt := 106) hx hb dX4_sendToPort_81 (by decide) ?_
          exact W.vret hx hb hr (fun t ht hW => ⟨⟨(sPW_KW u (f_X2_setHighAddress (gPW_KW u) a2)), rfl, (by simp only [f_X4_sendToPort, if_neg c1, if_neg c2, if_neg c3, if_pos c4]), by rw [ht]; exact hP, va_K.moved hW.alike hK, hD⟩, hS.F ht⟩) hS.2.2 dX4_sendToPort_106
        · skip
          by_cases c5 : a1 = 5
          · refine tb_in (k := 5) (off := 83) (tgt := 84) hx hb dX4_sendToPort_1 c5 (by decide) (by decide) (by decide) (by decide) ?_
            refine lv_aload_n hx hb dX4_sendToPort_84 rfl (lv_at hl 0 rfl) ?_
            refine va_get (D := (dC, dI)) (ci := 4) (v := .ref kO) (C := RX4) (T := TX4) (N := 13) hx hb hts iX4_sendToPort_X4 hown hK hP 0 rfl rfl 2 (by decide) (hts _ qX4_sendToPort_0) (fun _ h9 => h9) rfl dX4_sendToPort_85 ?_
            refine lv_iload_n hx hb dX4_sendToPort_88 rfl (lv_at hl 2 rfl) ?_
            obtain ⟨hPc, hDc, hFc⟩ := xP_K hP hD hS hA
            have hKc := hK.sub (tys' := [(cI, .int)]) [0] rfl
            refine va_callv (va_runV (As := [.int a2]) (rest := []) ⟨hx, hb, hml, hown, hts⟩ (k_X2_setCall l dC dI cI kO mS mA dS dA H.size (gPW_KW u) a2) (cwV 1 hts gX4_sendToPort_X2_setCall rfl rfl rfl (by decide +kernel) ⟨Nat.le_of_ble_eq_true rfl, Nat.le_of_ble_eq_true rfl⟩) ⟨fun a U g mk q => by obtain ⟨q0, q1, qP, qK, qD⟩ := q; exact ⟨q0, q1, qP, va_K.moved (u := U) (U := U.calling g mk a) (Vm.Alike.refl U.vm) qK, qD⟩, va_recv hKc hPc (ci := 2) (q0 := 0) rfl rfl, fun U hU hW => ⟨rfl, by rw [hU], by rw [hU]; exact hPc, va_K.moved hW.alike hKc, hDc.weaken (fun _ _ _ _ => trivial)⟩⟩ rfl rfl hl.1 rfl (lv_room (Nat.le_of_ble_eq_true rfl)) dX4_sendToPort_89 ⟨Nat.le_of_ble_eq_true rfl, Nat.le_of_ble_eq_true rfl⟩) hS (fun q _ h => hFc q h) hFc (fun u9 t H1 locs ht hvm hw hB hz1 hk1 hS => ?_)
            subst hw
            obtain ⟨hP1, hK1, hD1⟩ := hB
            rw [ht] at hP1
            obtain ⟨hP, hD⟩ := jP_K hP hD hk1 hFc hP1 hD1
            clear hPc hDc hKc hFc hz1 hk1 hP1 hK1 hD1 ht hvm
            generalize H1 = H at hP hS ⊢
            refine lv_goto (tgt := 106) hx hb dX4_sendToPort_92 (by decide) ?_
            exact W.vret hx hb hr (fun t ht hW => ⟨⟨(sPW_KW u (f_X2_setCall (gPW_KW u) a2)), rfl, (by simp only [f_X4_sendToPort, if_neg c1, if_neg c2, if_neg c3, if_neg c4, if_pos c5]), by rw [ht]; exact hP, va_K.moved hW.alike hK, hD⟩, hS.F ht⟩) hS.2.2 dX4_sendToPort_106
          · skip
            by_cases c6 : a1 = 6
            · refine tb_in (k := 6) (off := 94) (tgt := 95) hx hb dX4_sendToPort_1 c6 (by decide) (by decide) (by decide) (by decide) ?_
              refine lv_aload_n hx hb dX4_sendToPort_95 rfl (lv_at hl 0 rfl) ?_
              refine va_get (D := (dC, dI)) (ci := 4) (v := .ref kO) (C := RX4) (T := TX4) (N := 13) hx hb hts iX4_sendToPort_X4 hown hK hP 0 rfl rfl 2 (by decide) (hts _ qX4_sendToPort_0) (fun _ h9 => h9) rfl dX4_sendToPort_96 ?_
              refine lv_iload_n hx hb dX4_sendToPort_99 rfl (lv_at hl 2 rfl) ?_
              obtain ⟨hPc, hDc, hFc⟩ := xP_K hP hD hS hA
              have hKc := hK.sub (tys' := [(cI, .int)]) [0] rfl
              refine va_callv (va_runV (As := [.int a2]) (rest := []) ⟨hx, hb, hml, hown, hts⟩ (k_X2_command l dC dI cI kO mS mA dS dA H.size (gPW_KW u) a2) (cwV 1 hts gX4_sendToPort_X2_command rfl rfl rfl (by decide +kernel) ⟨Nat.le_of_ble_eq_true rfl, Nat.le_of_ble_eq_true rfl⟩) ⟨fun a U g mk q => by obtain ⟨q0, q1, qP, qK, qD⟩ := q; exact ⟨q0, q1, qP, va_K.moved (u := U) (U := U.calling g mk a) (Vm.Alike.refl U.vm) qK, qD⟩, va_recv hKc hPc (ci := 2) (q0 := 0) rfl rfl, fun U hU hW => ⟨rfl, by rw [hU], by rw [hU]; exact hPc, va_K.moved hW.alike hKc, hDc.weaken (fun _ _ _ _ => trivial)⟩⟩ rfl rfl hl.1 rfl (lv_room (Nat.le_of_ble_eq_true rfl)) dX4_sendToPort_100 ⟨Nat.le_of_ble_eq_true rfl, Nat.le_of_ble_eq_true rfl⟩) hS (fun q _ h => hFc q h) hFc (fun u9 t H1 locs ht hvm hw hB hz1 hk1 hS => ?_)
              subst hw
              obtain ⟨hP1, hK1, hD1⟩ := hB
              rw [ht] at hP1
              obtain ⟨hP, hD⟩ := jP_K hP hD hk1 hFc hP1 hD1
              clear hPc hDc hKc hFc hz1 hk1 hP1 hK1 hD1 ht hvm
              generalize H1 = H at hP hS ⊢
              refine lv_goto (tgt := 106) hx hb dX4_sendToPort_103 (by decide) ?_
              exact W.vret hx hb hr (fun t ht hW => ⟨⟨(sPW_KW u (f_X2_command (gPW_KW u) a2)), rfl, (by simp only [f_X4_sendToPort, if_neg c1, if_neg c2, if_neg c3, if_neg c4, if_neg c5, if_pos c6]), by rw [ht]; exact hP, va_K.moved hW.alike hK, hD⟩, hS.F ht⟩) hS.2.2 dX4_sendToPort_106
            · skip
              refine lv_tableOut (tgt := 106) hx hb dX4_sendToPort_1 (by have r1 := lv_neT c1 (a := 1) (by decide); have r2 := lv_neT c2 (a := 2) (by decide); have r3 := lv_neT c3 (a := 3) (by decide); have r4 := lv_neT c4 (a := 4) (by decide); have r5 := lv_neT c5 (a := 5) (by decide); have r6 := lv_neT c6 (a := 6) (by decide); omega) (by decide) ?_
              exact W.vret hx hb hr (fun t ht hW => ⟨⟨u, rfl, (by simp only [f_X4_sendToPort, if_neg c1, if_neg c2, if_neg c3, if_neg c4, if_neg c5, if_neg c6]), by rw [ht]; exact hP, va_K.moved hW.alike hK, hD⟩, hS.F ht⟩) hS.2.2 dX4_sendToPort_106

def f_X4_takeFromPort (u : PW) (a1 : Int32) : Int32 × PW := 
  if a1 = 0 then ((bI (if (bI (f_X1_hasInput (gPW_C u))) = (0 : Int32) then false else true : Bool)), u)
  else 
    if a1 = 1 then ((f_X1_nextInput (gPW_C u)).1, (sPW_C u (f_X1_nextInput (gPW_C u)).2))
    else 
      if a1 = 6 then ((f_X2_takeState (gPW_KW u)).1, (sPW_KW u (f_X2_takeState (gPW_KW u)).2))
      else (255, u)
theorem qX4_takeFromPort_0 : Cond.fieldLink RX4 43 "DiskMachine$Processor" "controller" "LDiskMachine$Controller;" ∈ wsX4_takeFromPort := by decide +kernel
theorem qX4_takeFromPort_1 : Cond.fieldLink RX4 39 "DiskMachine$Processor" "console" "LDiskMachine$Console;" ∈ wsX4_takeFromPort := by decide +kernel
theorem iX4_takeFromPort_X4 : ∀ w ∈ wsX40, w ∈ wsX4_takeFromPort := by decide +kernel
set_option maxHeartbeats 4000000 in
set_option maxRecDepth 100000 in
theorem k_X4_takeFromPort (l : Launch) (dC : Nat → ClassId) (dI : Nat → Nat → Nat) (cI : ClassId) (pO mS mA dS dA cO iA oA kO fO aO rA : Nat) (sz : Nat) (u : PW) (a1 : Int32) (hC : ∃ i j : Nat, i < 64 ∧ j ≤ 64 ∧ gCS_fst (gPW_C u) = nI i ∧ gCS_cnt (gPW_C u) = nI j) : Met l yX4_takeFromPort wsX4_takeFromPort ({ frames := 1, cells := 0, slots := 0, locals := 21 }) (va_Pc [.ref pO, .int a1] (wB dC dI [(cI, .int)] sz (wP cI pO mS mA dS dA cO iA oA kO fO aO rA u))) (va_Qi (fun (r : Int32) (u' : PW) => r = (f_X4_takeFromPort u a1).1 ∧ u' = (f_X4_takeFromPort u a1).2) (fun u' => wE dC dI [(cI, .int)] (va_A (wP cI pO mS mA dS dA cO iA oA kO fO aO rA u) sz) (wP cI pO mS mA dS dA cO iA oA kO fO aO rA u')) (va_A (wP cI pO mS mA dS dA cO iA oA kO fO aO rA u) sz)) 0 0 (va_A (wP cI pO mS mA dS dA cO iA oA kO fO aO rA u) sz) := by
  refine Met.ofW (cc := cX4_takeFromPort) (maxL := 2) (ret := (some .int)) (by decide) rfl ?_
  intro p e s m args below meth c s₁ B hml hv
  obtain ⟨rfl, hsz, hP, hK, hD0⟩ := hv
  have hx := B.exec
  have hb := B.bytes
  have hr := B.returns
  have hts := atoms_spec (ws := wsX4_takeFromPort) B.pre
  have hown : s.vm.findClass RX4 = some m.cls := findClass_of_methodNamed B.named
  have hlocks := B.notSynchronized
  subst hsz
  have hD := hD0.self (sz := s.heap.size)
  generalize hAe : va_A (wP cI pO mS mA dS dA cO iA oA kO fO aO rA u) s.heap.size = A at hD ⊢
  have hA : ∀ q : Nat, s.heap.size ≤ q → A q := fun q h => by rw [← hAe]; exact Or.inr h
  have hS : va_S A s.heap s.heap [] := va_S.rf
  have hP : va_P (dC, dI) vwCl (wP cI pO mS mA dS dA cO iA oA kO fO aO rA u) s.heap := hP
  clear hAe hD0
  have hl := lv_entry ([.ref pO, .int a1]) (n := 2) (Nat.le_of_ble_eq_true rfl)
  rw [lg_entry_eq]
  generalize (lg_sl ([.ref pO, .int a1]) ++ List.replicate (2 - (lg_sl ([.ref pO, .int a1])).length) Slot.unset).toArray = ls at hl ⊢
  have hl : lv_has ls 2 [(0, .ref pO), (1, .int a1)] := hl
  refine jn_H hP hS (fun H locs hP hS => ?_)
  refine lv_iload_n hx hb dX4_takeFromPort_0 rfl (lv_at hl 1 rfl) ?_
  by_cases c1 : a1 = 0
  · refine lk_in (k := 0) (off := 35) (tgt := 36) hx hb dX4_takeFromPort_1 c1 (by decide) (by decide) (by decide) ?_
    refine lv_aload_n hx hb dX4_takeFromPort_36 rfl (lv_at hl 0 rfl) ?_
    refine va_get (D := (dC, dI)) (ci := 4) (v := .ref cO) (C := RX4) (T := TX4) (N := 13) hx hb hts iX4_takeFromPort_X4 hown hK hP 0 rfl rfl 1 (by decide) (hts _ qX4_takeFromPort_1) (fun _ h9 => h9) rfl dX4_takeFromPort_37 ?_
    obtain ⟨hPc, hDc, hFc⟩ := xP_C hP hD hS hA
    have hKc := hK.sub (tys' := [(cI, .int)]) [0] rfl
    refine va_calli (va_runV (As := []) (rest := []) ⟨hx, hb, hml, hown, hts⟩ (k_X1_hasInput l dC dI cI cO iA oA H.size (gPW_C u)) (cwV 0 hts gX4_takeFromPort_X1_hasInput rfl rfl rfl (by decide +kernel) ⟨Nat.le_of_ble_eq_true rfl, Nat.le_of_ble_eq_true rfl⟩) ⟨fun a U g mk q => by obtain ⟨q0, q1, qP, qK, qD⟩ := q; exact ⟨q0, q1, qP, va_K.moved (u := U) (U := U.calling g mk a) (Vm.Alike.refl U.vm) qK, qD⟩, va_recv hKc hPc (ci := 1) (q0 := 0) rfl rfl, fun U hU hW => ⟨rfl, by rw [hU], by rw [hU]; exact hPc, va_K.moved hW.alike hKc, hDc.weaken (fun _ _ _ _ => trivial)⟩⟩ rfl rfl hl.1 rfl (lv_room (Nat.le_of_ble_eq_true rfl)) dX4_takeFromPort_40 ⟨Nat.le_of_ble_eq_true rfl, Nat.le_of_ble_eq_true rfl⟩) hS (fun q _ h => hFc q h) hFc (fun r9 u9 t H1 locs ht hvm hw hB hz1 hk1 hS => ?_)
    obtain ⟨hw1, hw2⟩ := hw
    have hw2 := hw2.symm
    subst hw1 hw2
    obtain ⟨hP1, hK1, hD1⟩ := hB
    rw [ht] at hP1
    obtain ⟨hP, hD⟩ := jP_C0 hP hD hk1 hFc hP1 hD1
    clear hPc hDc hKc hFc hz1 hk1 hP1 hK1 hD1 ht hvm
    generalize H1 = H at hP hS ⊢
    refine jn_b (D := (dC, dI)) (cl := vwCl) (ws := (wP cI pO mS mA dS dA cO iA oA kO fO aO rA u)) (A := A) (H0 := s.heap) (nL := 2) 51 (if (bI (f_X1_hasInput (gPW_C u))) = (0 : Int32) then false else true : Bool) [(0, .ref pO), (1, .int a1)] [] (fun H locs ls hP hS hl => ?_) (fun hJ2 => ?_)
    · skip
      exact W.iret (v := (bI (if (bI (f_X1_hasInput (gPW_C u))) = (0 : Int32) then false else true : Bool))) hx hb hr (fun t ht hW => ⟨⟨(bI (if (bI (f_X1_hasInput (gPW_C u))) = (0 : Int32) then false else true : Bool)), u, rfl, ⟨(by simp only [f_X4_takeFromPort, if_pos c1]), (by simp only [f_X4_takeFromPort, if_pos c1])⟩, by rw [ht]; exact hP, va_K.moved hW.alike hK, hD⟩, hS.F ht⟩) hS.2.2 dX4_takeFromPort_51
    · skip
      refine lv_if_eq (tgt := 50) hx hb dX4_takeFromPort_43 (by decide) (fun c3 => ?_) (fun c3 => ?_)
      · skip
        refine lv_iconst (v := 0) hx hb dX4_takeFromPort_50 (by decide) ?_
        exact hJ2 false _ _ _ (by simp only [if_pos c3]) hP hS (lv_sub hl [0, 1] rfl)
      · skip
        refine lv_iconst (v := 1) hx hb dX4_takeFromPort_46 (by decide) ?_
        refine lv_goto (tgt := 51) hx hb dX4_takeFromPort_47 (by decide) ?_
        exact hJ2 true _ _ _ (by simp only [if_neg c3]) hP hS (lv_sub hl [0, 1] rfl)
  · skip
    by_cases c4 : a1 = 1
    · refine lk_in (k := 1) (off := 51) (tgt := 52) hx hb dX4_takeFromPort_1 c4 (by decide) (by decide) (by decide) ?_
      refine lv_aload_n hx hb dX4_takeFromPort_52 rfl (lv_at hl 0 rfl) ?_
      refine va_get (D := (dC, dI)) (ci := 4) (v := .ref cO) (C := RX4) (T := TX4) (N := 13) hx hb hts iX4_takeFromPort_X4 hown hK hP 0 rfl rfl 1 (by decide) (hts _ qX4_takeFromPort_1) (fun _ h9 => h9) rfl dX4_takeFromPort_53 ?_
      obtain ⟨hPc, hDc, hFc⟩ := xP_C hP hD hS hA
      have hKc := hK.sub (tys' := [(cI, .int)]) [0] rfl
      refine va_calli (va_runV (As := []) (rest := []) ⟨hx, hb, hml, hown, hts⟩ (k_X1_nextInput l dC dI cI cO iA oA H.size (gPW_C u) hC) (cwV 0 hts gX4_takeFromPort_X1_nextInput rfl rfl rfl (by decide +kernel) ⟨Nat.le_of_ble_eq_true rfl, Nat.le_of_ble_eq_true rfl⟩) ⟨fun a U g mk q => by obtain ⟨q0, q1, qP, qK, qD⟩ := q; exact ⟨q0, q1, qP, va_K.moved (u := U) (U := U.calling g mk a) (Vm.Alike.refl U.vm) qK, qD⟩, va_recv hKc hPc (ci := 1) (q0 := 0) rfl rfl, fun U hU hW => ⟨rfl, by rw [hU], by rw [hU]; exact hPc, va_K.moved hW.alike hKc, hDc.weaken (fun _ _ _ _ => trivial)⟩⟩ rfl rfl hl.1 rfl (lv_room (Nat.le_of_ble_eq_true rfl)) dX4_takeFromPort_56 ⟨Nat.le_of_ble_eq_true rfl, Nat.le_of_ble_eq_true rfl⟩) hS (fun q _ h => hFc q h) hFc (fun r9 u9 t H1 locs ht hvm hw hB hz1 hk1 hS => ?_)
      obtain ⟨rfl, rfl⟩ := hw
      obtain ⟨hP1, hK1, hD1⟩ := hB
      rw [ht] at hP1
      obtain ⟨hP, hD⟩ := jP_C hP hD hk1 hFc hP1 hD1
      clear hPc hDc hKc hFc hz1 hk1 hP1 hK1 hD1 ht hvm
      generalize H1 = H at hP hS ⊢
      exact W.iret (v := (f_X1_nextInput (gPW_C u)).1) hx hb hr (fun t ht hW => ⟨⟨(f_X1_nextInput (gPW_C u)).1, (sPW_C u (f_X1_nextInput (gPW_C u)).2), rfl, ⟨(by simp only [f_X4_takeFromPort, if_neg c1, if_pos c4]), (by simp only [f_X4_takeFromPort, if_neg c1, if_pos c4])⟩, by rw [ht]; exact hP, va_K.moved hW.alike hK, hD⟩, hS.F ht⟩) hS.2.2 dX4_takeFromPort_59
    · skip
      by_cases c5 : a1 = 6
      · refine lk_in (k := 6) (off := 59) (tgt := 60) hx hb dX4_takeFromPort_1 c5 (by decide) (by decide) (by decide) ?_
        refine lv_aload_n hx hb dX4_takeFromPort_60 rfl (lv_at hl 0 rfl) ?_
        refine va_get (D := (dC, dI)) (ci := 4) (v := .ref kO) (C := RX4) (T := TX4) (N := 13) hx hb hts iX4_takeFromPort_X4 hown hK hP 0 rfl rfl 2 (by decide) (hts _ qX4_takeFromPort_0) (fun _ h9 => h9) rfl dX4_takeFromPort_61 ?_
        obtain ⟨hPc, hDc, hFc⟩ := xP_K hP hD hS hA
        have hKc := hK.sub (tys' := [(cI, .int)]) [0] rfl
        refine va_calli (va_runV (As := []) (rest := []) ⟨hx, hb, hml, hown, hts⟩ (k_X2_takeState l dC dI cI kO mS mA dS dA H.size (gPW_KW u)) (cwV 0 hts gX4_takeFromPort_X2_takeState rfl rfl rfl (by decide +kernel) ⟨Nat.le_of_ble_eq_true rfl, Nat.le_of_ble_eq_true rfl⟩) ⟨fun a U g mk q => by obtain ⟨q0, q1, qP, qK, qD⟩ := q; exact ⟨q0, q1, qP, va_K.moved (u := U) (U := U.calling g mk a) (Vm.Alike.refl U.vm) qK, qD⟩, va_recv hKc hPc (ci := 2) (q0 := 0) rfl rfl, fun U hU hW => ⟨rfl, by rw [hU], by rw [hU]; exact hPc, va_K.moved hW.alike hKc, hDc.weaken (fun _ _ _ _ => trivial)⟩⟩ rfl rfl hl.1 rfl (lv_room (Nat.le_of_ble_eq_true rfl)) dX4_takeFromPort_64 ⟨Nat.le_of_ble_eq_true rfl, Nat.le_of_ble_eq_true rfl⟩) hS (fun q _ h => hFc q h) hFc (fun r9 u9 t H1 locs ht hvm hw hB hz1 hk1 hS => ?_)
        obtain ⟨rfl, rfl⟩ := hw
        obtain ⟨hP1, hK1, hD1⟩ := hB
        rw [ht] at hP1
        obtain ⟨hP, hD⟩ := jP_K hP hD hk1 hFc hP1 hD1
        clear hPc hDc hKc hFc hz1 hk1 hP1 hK1 hD1 ht hvm
        generalize H1 = H at hP hS ⊢
        exact W.iret (v := (f_X2_takeState (gPW_KW u)).1) hx hb hr (fun t ht hW => ⟨⟨(f_X2_takeState (gPW_KW u)).1, (sPW_KW u (f_X2_takeState (gPW_KW u)).2), rfl, ⟨(by simp only [f_X4_takeFromPort, if_neg c1, if_neg c4, if_pos c5]), (by simp only [f_X4_takeFromPort, if_neg c1, if_neg c4, if_pos c5])⟩, by rw [ht]; exact hP, va_K.moved hW.alike hK, hD⟩, hS.F ht⟩) hS.2.2 dX4_takeFromPort_67
      · skip
        refine lk_out (off := 67) (tgt := 68) hx hb dX4_takeFromPort_1 (by decide) (by rw [lv_osw c1 (by decide), lv_osw c4 (by decide), lv_osw c5 (by decide)]; rfl) (by decide) ?_
        refine lv_sipush (v := 255) hx hb dX4_takeFromPort_68 (by decide) ?_
        exact W.iret (v := 255) hx hb hr (fun t ht hW => ⟨⟨255, u, rfl, ⟨(by simp only [f_X4_takeFromPort, if_neg c1, if_neg c4, if_neg c5]), (by simp only [f_X4_takeFromPort, if_neg c1, if_neg c4, if_neg c5])⟩, by rw [ht]; exact hP, va_K.moved hW.alike hK, hD⟩, hS.F ht⟩) hS.2.2 dX4_takeFromPort_71

def f_X4_portOrExchange (u : PW) (a1 : Int32) : Int32 × PW := 
  if a1 = 2 then (10, (f_X4_sendToPort (f_X4_nextByte u).2 (f_X4_nextByte u).1 ((gPW_P_r (f_X4_nextByte u).2) (7 : Int32).toNatClampNeg)))
  else 
    if a1 = 3 then (10, (sPW_P_r (f_X4_takeFromPort (f_X4_nextByte u).2 (f_X4_nextByte u).1).2 (upd (gPW_P_r (f_X4_takeFromPort (f_X4_nextByte u).2 (f_X4_nextByte u).1).2) (7 : Int32).toNatClampNeg (f_X4_takeFromPort (f_X4_nextByte u).2 (f_X4_nextByte u).1).1)))
    else 
      if a1 = 4 then ((f_X4_swapWithStack u).1, (f_X4_swapWithStack u).2)
      else 
        if a1 = 5 then ((f_X4_swapPairs u).1, (f_X4_swapPairs u).2)
        else 
          if a1 = 6 then (4, (sPW_P_on u false))
          else (4, (sPW_P_jon (sPW_P_on u true) true))
theorem qX4_portOrExchange_0 : Cond.fieldLink RX4 66 "DiskMachine$Processor" "interruptsOn" "Z" ∈ wsX4_portOrExchange := by decide +kernel
theorem qX4_portOrExchange_1 : Cond.fieldLink RX4 73 "DiskMachine$Processor" "justSetOn" "Z" ∈ wsX4_portOrExchange := by decide +kernel
theorem qX4_portOrExchange_2 : Cond.fieldLink RX4 27 "DiskMachine$Processor" "registers" "[I" ∈ wsX4_portOrExchange := by decide +kernel
theorem iX4_portOrExchange_X4 : ∀ w ∈ wsX40, w ∈ wsX4_portOrExchange := by decide +kernel
set_option maxHeartbeats 4000000 in
set_option maxRecDepth 100000 in
theorem k_X4_portOrExchange (l : Launch) (dC : Nat → ClassId) (dI : Nat → Nat → Nat) (cI : ClassId) (pO mS mA dS dA cO iA oA kO fO aO rA : Nat) (sz : Nat) (u : PW) (a1 : Int32) (hC : ∃ i j : Nat, i < 64 ∧ j ≤ 64 ∧ gCS_fst (gPW_C u) = nI i ∧ gCS_cnt (gPW_C u) = nI j) : Met l yX4_portOrExchange wsX4_portOrExchange ({ frames := 3, cells := 0, slots := 0, locals := 64 }) (va_Pc [.ref pO, .int a1] (wB dC dI [(cI, .int)] sz (wP cI pO mS mA dS dA cO iA oA kO fO aO rA u))) (va_Qi (fun (r : Int32) (u' : PW) => r = (f_X4_portOrExchange u a1).1 ∧ u' = (f_X4_portOrExchange u a1).2) (fun u' => wE dC dI [(cI, .int)] (va_A (wP cI pO mS mA dS dA cO iA oA kO fO aO rA u) sz) (wP cI pO mS mA dS dA cO iA oA kO fO aO rA u')) (va_A (wP cI pO mS mA dS dA cO iA oA kO fO aO rA u) sz)) 0 0 (va_A (wP cI pO mS mA dS dA cO iA oA kO fO aO rA u) sz) := by
  refine Met.ofW (cc := cX4_portOrExchange) (maxL := 2) (ret := (some .int)) (by decide) rfl ?_
  intro p e s m args below meth c s₁ B hml hv
  obtain ⟨rfl, hsz, hP, hK, hD0⟩ := hv
  have hx := B.exec
  have hb := B.bytes
  have hr := B.returns
  have hts := atoms_spec (ws := wsX4_portOrExchange) B.pre
  have hown : s.vm.findClass RX4 = some m.cls := findClass_of_methodNamed B.named
  have hlocks := B.notSynchronized
  subst hsz
  have hD := hD0.self (sz := s.heap.size)
  generalize hAe : va_A (wP cI pO mS mA dS dA cO iA oA kO fO aO rA u) s.heap.size = A at hD ⊢
  have hA : ∀ q : Nat, s.heap.size ≤ q → A q := fun q h => by rw [← hAe]; exact Or.inr h
  have hS : va_S A s.heap s.heap [] := va_S.rf
  have hP : va_P (dC, dI) vwCl (wP cI pO mS mA dS dA cO iA oA kO fO aO rA u) s.heap := hP
  clear hAe hD0
  have hl := lv_entry ([.ref pO, .int a1]) (n := 2) (Nat.le_of_ble_eq_true rfl)
  rw [lg_entry_eq]
  generalize (lg_sl ([.ref pO, .int a1]) ++ List.replicate (2 - (lg_sl ([.ref pO, .int a1])).length) Slot.unset).toArray = ls at hl ⊢
  have hl : lv_has ls 2 [(0, .ref pO), (1, .int a1)] := hl
  refine jn_H hP hS (fun H locs hP hS => ?_)
  refine lv_iload_n hx hb dX4_portOrExchange_0 rfl (lv_at hl 1 rfl) ?_
  by_cases c1 : a1 = 2
  · refine tb_in (k := 2) (off := 35) (tgt := 36) hx hb dX4_portOrExchange_1 c1 (by decide) (by decide) (by decide) (by decide) ?_
    refine lv_aload_n hx hb dX4_portOrExchange_36 rfl (lv_at hl 0 rfl) ?_
    refine lv_aload_n hx hb dX4_portOrExchange_37 rfl (lv_at hl 0 rfl) ?_
    obtain ⟨hPc, hDc, hFc⟩ := xP_P hP hD hS hA
    have hKc := hK.sub (tys' := [(cI, .int)]) [0] rfl
    refine va_calli (va_runV (As := []) (rest := [.ref pO]) ⟨hx, hb, hml, hown, hts⟩ (k_X4_nextByte l dC dI cI pO mS mA dS dA cO iA oA kO fO aO rA H.size u) (cwV 0 hts gX4_portOrExchange_X4_nextByte rfl rfl rfl (by decide +kernel) ⟨Nat.le_of_ble_eq_true rfl, Nat.le_of_ble_eq_true rfl⟩) ⟨fun a U g mk q => by obtain ⟨q0, q1, qP, qK, qD⟩ := q; exact ⟨q0, q1, qP, va_K.moved (u := U) (U := U.calling g mk a) (Vm.Alike.refl U.vm) qK, qD⟩, va_recv hKc hPc (ci := 4) (q0 := 0) rfl rfl, fun U hU hW => ⟨rfl, by rw [hU], by rw [hU]; exact hPc, va_K.moved hW.alike hKc, hDc.weaken (fun _ _ _ _ => trivial)⟩⟩ rfl rfl hl.1 rfl (lv_room (Nat.le_of_ble_eq_true rfl)) dX4_portOrExchange_38 ⟨Nat.le_of_ble_eq_true rfl, Nat.le_of_ble_eq_true rfl⟩) hS (fun q _ h => hFc q h) hFc (fun r9 u9 t H1 locs ht hvm hw hB hz1 hk1 hS => ?_)
    obtain ⟨rfl, rfl⟩ := hw
    obtain ⟨hP1, hK1, hD1⟩ := hB
    rw [ht] at hP1
    obtain ⟨hP, hD⟩ := jP_P hP hD hk1 hFc hP1 hD1
    clear hPc hDc hKc hFc hz1 hk1 hP1 hK1 hD1 ht hvm
    generalize H1 = H at hP hS ⊢
    refine lv_aload_n hx hb dX4_portOrExchange_41 rfl (lv_at hl 0 rfl) ?_
    refine va_get (D := (dC, dI)) (ci := 4) (v := .ref rA) (C := RX4) (T := TX4) (N := 13) hx hb hts iX4_portOrExchange_X4 hown hK hP 0 rfl rfl 5 (by decide) (hts _ qX4_portOrExchange_2) (fun _ h9 => h9) rfl dX4_portOrExchange_42 ?_
    refine lv_bipush (v := 7) hx hb dX4_portOrExchange_45 (by decide) ?_
    refine va_iald (f := (gPW_P_r (f_X4_nextByte u).2)) hx hb hK hP 11 0 rfl rfl (ix_lit (by decide)) dX4_portOrExchange_47 ?_
    obtain ⟨hPc, hDc, hFc⟩ := xP_P hP hD hS hA
    have hKc := hK.sub (tys' := [(cI, .int)]) [0] rfl
    refine va_callv (va_runV (As := [.int (f_X4_nextByte u).1, .int ((gPW_P_r (f_X4_nextByte u).2) (7 : Int32).toNatClampNeg)]) (rest := []) ⟨hx, hb, hml, hown, hts⟩ (k_X4_sendToPort l dC dI cI pO mS mA dS dA cO iA oA kO fO aO rA H.size (f_X4_nextByte u).2 (f_X4_nextByte u).1 ((gPW_P_r (f_X4_nextByte u).2) (7 : Int32).toNatClampNeg)) (cwV 2 hts gX4_portOrExchange_X4_sendToPort rfl rfl rfl (by decide +kernel) ⟨Nat.le_of_ble_eq_true rfl, Nat.le_of_ble_eq_true rfl⟩) ⟨fun a U g mk q => by obtain ⟨q0, q1, qP, qK, qD⟩ := q; exact ⟨q0, q1, qP, va_K.moved (u := U) (U := U.calling g mk a) (Vm.Alike.refl U.vm) qK, qD⟩, va_recv hKc hPc (ci := 4) (q0 := 0) rfl rfl, fun U hU hW => ⟨rfl, by rw [hU], by rw [hU]; exact hPc, va_K.moved hW.alike hKc, hDc.weaken (fun _ _ _ _ => trivial)⟩⟩ rfl rfl hl.1 rfl (lv_room (Nat.le_of_ble_eq_true rfl)) dX4_portOrExchange_48 ⟨Nat.le_of_ble_eq_true rfl, Nat.le_of_ble_eq_true rfl⟩) hS (fun q _ h => hFc q h) hFc (fun u9 t H1 locs ht hvm hw hB hz1 hk1 hS => ?_)
    subst hw
    obtain ⟨hP1, hK1, hD1⟩ := hB
    rw [ht] at hP1
    obtain ⟨hP, hD⟩ := jP_P hP hD hk1 hFc hP1 hD1
    clear hPc hDc hKc hFc hz1 hk1 hP1 hK1 hD1 ht hvm
    generalize H1 = H at hP hS ⊢
    refine lv_bipush (v := 10) hx hb dX4_portOrExchange_51 (by decide) ?_
    exact W.iret (v := 10) hx hb hr (fun t ht hW => ⟨⟨10, (f_X4_sendToPort (f_X4_nextByte u).2 (f_X4_nextByte u).1 ((gPW_P_r (f_X4_nextByte u).2) (7 : Int32).toNatClampNeg)), rfl, ⟨(by simp only [f_X4_portOrExchange, if_pos c1]), (by simp only [f_X4_portOrExchange, if_pos c1])⟩, by rw [ht]; exact hP, va_K.moved hW.alike hK, hD⟩, hS.F ht⟩) hS.2.2 dX4_portOrExchange_53
  · skip
    by_cases c2 : a1 = 3
    · refine tb_in (k := 3) (off := 53) (tgt := 54) hx hb dX4_portOrExchange_1 c2 (by decide) (by decide) (by decide) (by decide) ?_
      refine lv_aload_n hx hb dX4_portOrExchange_54 rfl (lv_at hl 0 rfl) ?_
      refine va_get (D := (dC, dI)) (ci := 4) (v := .ref rA) (C := RX4) (T := TX4) (N := 13) hx hb hts iX4_portOrExchange_X4 hown hK hP 0 rfl rfl 5 (by decide) (hts _ qX4_portOrExchange_2) (fun _ h9 => h9) rfl dX4_portOrExchange_55 ?_
      refine lv_bipush (v := 7) hx hb dX4_portOrExchange_58 (by decide) ?_
      refine lv_aload_n hx hb dX4_portOrExchange_60 rfl (lv_at hl 0 rfl) ?_
      refine lv_aload_n hx hb dX4_portOrExchange_61 rfl (lv_at hl 0 rfl) ?_
      obtain ⟨hPc, hDc, hFc⟩ := xP_P hP hD hS hA
      have hKc := hK.sub (tys' := [(cI, .int)]) [0] rfl
      refine va_calli (va_runV (As := []) (rest := [.ref pO, .int 7, .ref rA]) ⟨hx, hb, hml, hown, hts⟩ (k_X4_nextByte l dC dI cI pO mS mA dS dA cO iA oA kO fO aO rA H.size u) (cwV 0 hts gX4_portOrExchange_X4_nextByte rfl rfl rfl (by decide +kernel) ⟨Nat.le_of_ble_eq_true rfl, Nat.le_of_ble_eq_true rfl⟩) ⟨fun a U g mk q => by obtain ⟨q0, q1, qP, qK, qD⟩ := q; exact ⟨q0, q1, qP, va_K.moved (u := U) (U := U.calling g mk a) (Vm.Alike.refl U.vm) qK, qD⟩, va_recv hKc hPc (ci := 4) (q0 := 0) rfl rfl, fun U hU hW => ⟨rfl, by rw [hU], by rw [hU]; exact hPc, va_K.moved hW.alike hKc, hDc.weaken (fun _ _ _ _ => trivial)⟩⟩ rfl rfl hl.1 rfl (lv_room (Nat.le_of_ble_eq_true rfl)) dX4_portOrExchange_62 ⟨Nat.le_of_ble_eq_true rfl, Nat.le_of_ble_eq_true rfl⟩) hS (fun q _ h => hFc q h) hFc (fun r9 u9 t H1 locs ht hvm hw hB hz1 hk1 hS => ?_)
      obtain ⟨rfl, rfl⟩ := hw
      obtain ⟨hP1, hK1, hD1⟩ := hB
      rw [ht] at hP1
      obtain ⟨hP, hD⟩ := jP_P hP hD hk1 hFc hP1 hD1
      clear hPc hDc hKc hFc hz1 hk1 hP1 hK1 hD1 ht hvm
      generalize H1 = H at hP hS ⊢
      obtain ⟨hPc, hDc, hFc⟩ := xP_P hP hD hS hA
      have hKc := hK.sub (tys' := [(cI, .int)]) [0] rfl
      refine va_calli (va_runV (As := [.int (f_X4_nextByte u).1]) (rest := [.int 7, .ref rA]) ⟨hx, hb, hml, hown, hts⟩ (k_X4_takeFromPort l dC dI cI pO mS mA dS dA cO iA oA kO fO aO rA H.size (f_X4_nextByte u).2 (f_X4_nextByte u).1 hC) (cwV 1 hts gX4_portOrExchange_X4_takeFromPort rfl rfl rfl (by decide +kernel) ⟨Nat.le_of_ble_eq_true rfl, Nat.le_of_ble_eq_true rfl⟩) ⟨fun a U g mk q => by obtain ⟨q0, q1, qP, qK, qD⟩ := q; exact ⟨q0, q1, qP, va_K.moved (u := U) (U := U.calling g mk a) (Vm.Alike.refl U.vm) qK, qD⟩, va_recv hKc hPc (ci := 4) (q0 := 0) rfl rfl, fun U hU hW => ⟨rfl, by rw [hU], by rw [hU]; exact hPc, va_K.moved hW.alike hKc, hDc.weaken (fun _ _ _ _ => trivial)⟩⟩ rfl rfl hl.1 rfl (lv_room (Nat.le_of_ble_eq_true rfl)) dX4_portOrExchange_65 ⟨Nat.le_of_ble_eq_true rfl, Nat.le_of_ble_eq_true rfl⟩) hS (fun q _ h => hFc q h) hFc (fun r9 u9 t H1 locs ht hvm hw hB hz1 hk1 hS => ?_)
      obtain ⟨rfl, rfl⟩ := hw
      obtain ⟨hP1, hK1, hD1⟩ := hB
      rw [ht] at hP1
      obtain ⟨hP, hD⟩ := jP_P hP hD hk1 hFc hP1 hD1
      clear hPc hDc hKc hFc hz1 hk1 hP1 hK1 hD1 ht hvm
      generalize H1 = H at hP hS ⊢
      refine va_iast (f := (gPW_P_r (f_X4_takeFromPort (f_X4_nextByte u).2 (f_X4_nextByte u).1).2)) hx hb hK hP hD hS 11 0 rfl rfl (ix_lit (by decide)) dX4_portOrExchange_68 (fun H locs hP hD hS => ?_)
      obtain ⟨hP, hD⟩ := aP_rA hP hD
      refine lv_bipush (v := 10) hx hb dX4_portOrExchange_69 (by decide) ?_
      exact W.iret (v := 10) hx hb hr (fun t ht hW => ⟨⟨10, (sPW_P_r (f_X4_takeFromPort (f_X4_nextByte u).2 (f_X4_nextByte u).1).2 (upd (gPW_P_r (f_X4_takeFromPort (f_X4_nextByte u).2 (f_X4_nextByte u).1).2) (7 : Int32).toNatClampNeg (f_X4_takeFromPort (f_X4_nextByte u).2 (f_X4_nextByte u).1).1)), rfl, ⟨(by simp only [f_X4_portOrExchange, if_neg c1, if_pos c2]), (by simp only [f_X4_portOrExchange, if_neg c1, if_pos c2])⟩, by rw [ht]; exact hP, va_K.moved hW.alike hK, hD⟩, hS.F ht⟩) hS.2.2 dX4_portOrExchange_71
    · skip
      by_cases c3 : a1 = 4
      · refine tb_in (k := 4) (off := 71) (tgt := 72) hx hb dX4_portOrExchange_1 c3 (by decide) (by decide) (by decide) (by decide) ?_
        refine lv_aload_n hx hb dX4_portOrExchange_72 rfl (lv_at hl 0 rfl) ?_
        obtain ⟨hPc, hDc, hFc⟩ := xP_P hP hD hS hA
        have hKc := hK.sub (tys' := [(cI, .int)]) [0] rfl
        refine va_calli (va_runV (As := []) (rest := []) ⟨hx, hb, hml, hown, hts⟩ (k_X4_swapWithStack l dC dI cI pO mS mA dS dA cO iA oA kO fO aO rA H.size u) (cwV 0 hts gX4_portOrExchange_X4_swapWithStack rfl rfl rfl (by decide +kernel) ⟨Nat.le_of_ble_eq_true rfl, Nat.le_of_ble_eq_true rfl⟩) ⟨fun a U g mk q => by obtain ⟨q0, q1, qP, qK, qD⟩ := q; exact ⟨q0, q1, qP, va_K.moved (u := U) (U := U.calling g mk a) (Vm.Alike.refl U.vm) qK, qD⟩, va_recv hKc hPc (ci := 4) (q0 := 0) rfl rfl, fun U hU hW => ⟨rfl, by rw [hU], by rw [hU]; exact hPc, va_K.moved hW.alike hKc, hDc.weaken (fun _ _ _ _ => trivial)⟩⟩ rfl rfl hl.1 rfl (lv_room (Nat.le_of_ble_eq_true rfl)) dX4_portOrExchange_73 ⟨Nat.le_of_ble_eq_true rfl, Nat.le_of_ble_eq_true rfl⟩) hS (fun q _ h => hFc q h) hFc (fun r9 u9 t H1 locs ht hvm hw hB hz1 hk1 hS => ?_)
        obtain ⟨rfl, rfl⟩ := hw
        obtain ⟨hP1, hK1, hD1⟩ := hB
        rw [ht] at hP1
        obtain ⟨hP, hD⟩ := jP_P hP hD hk1 hFc hP1 hD1
        clear hPc hDc hKc hFc hz1 hk1 hP1 hK1 hD1 ht hvm
        generalize H1 = H at hP hS ⊢
        exact W.iret (v := (f_X4_swapWithStack u).1) hx hb hr (fun t ht hW => ⟨⟨(f_X4_swapWithStack u).1, (f_X4_swapWithStack u).2, rfl, ⟨(by simp only [f_X4_portOrExchange, if_neg c1, if_neg c2, if_pos c3]), (by simp only [f_X4_portOrExchange, if_neg c1, if_neg c2, if_pos c3])⟩, by rw [ht]; exact hP, va_K.moved hW.alike hK, hD⟩, hS.F ht⟩) hS.2.2 dX4_portOrExchange_76
      · skip
        by_cases c4 : a1 = 5
        · refine tb_in (k := 5) (off := 76) (tgt := 77) hx hb dX4_portOrExchange_1 c4 (by decide) (by decide) (by decide) (by decide) ?_
          refine lv_aload_n hx hb dX4_portOrExchange_77 rfl (lv_at hl 0 rfl) ?_
          obtain ⟨hPc, hDc, hFc⟩ := xP_P hP hD hS hA
          have hKc := hK.sub (tys' := [(cI, .int)]) [0] rfl
          refine va_calli (va_runV (As := []) (rest := []) ⟨hx, hb, hml, hown, hts⟩ (k_X4_swapPairs l dC dI cI pO mS mA dS dA cO iA oA kO fO aO rA H.size u) (cwV 0 hts gX4_portOrExchange_X4_swapPairs rfl rfl rfl (by decide +kernel) ⟨Nat.le_of_ble_eq_true rfl, Nat.le_of_ble_eq_true rfl⟩) ⟨fun a U g mk q => by obtain ⟨q0, q1, qP, qK, qD⟩ := q; exact ⟨q0, q1, qP, va_K.moved (u := U) (U := U.calling g mk a) (Vm.Alike.refl U.vm) qK, qD⟩, va_recv hKc hPc (ci := 4) (q0 := 0) rfl rfl, fun U hU hW => ⟨rfl, by rw [hU], by rw [hU]; exact hPc, va_K.moved hW.alike hKc, hDc.weaken (fun _ _ _ _ => trivial)⟩⟩ rfl rfl hl.1 rfl (lv_room (Nat.le_of_ble_eq_true rfl)) dX4_portOrExchange_78 ⟨Nat.le_of_ble_eq_true rfl, Nat.le_of_ble_eq_true rfl⟩) hS (fun q _ h => hFc q h) hFc (fun r9 u9 t H1 locs ht hvm hw hB hz1 hk1 hS => ?_)
          obtain ⟨rfl, rfl⟩ := hw
          obtain ⟨hP1, hK1, hD1⟩ := hB
          rw [ht] at hP1
          obtain ⟨hP, hD⟩ := jP_P hP hD hk1 hFc hP1 hD1
          clear hPc hDc hKc hFc hz1 hk1 hP1 hK1 hD1 ht hvm
          generalize H1 = H at hP hS ⊢
          exact W.iret (v := (f_X4_swapPairs u).1) hx hb hr (fun t ht hW => ⟨⟨(f_X4_swapPairs u).1, (f_X4_swapPairs u).2, rfl, ⟨(by simp only [f_X4_portOrExchange, if_neg c1, if_neg c2, if_neg c3, if_pos c4]), (by simp only [f_X4_portOrExchange, if_neg c1, if_neg c2, if_neg c3, if_pos c4])⟩, by rw [ht]; exact hP, va_K.moved hW.alike hK, hD⟩, hS.F ht⟩) hS.2.2 dX4_portOrExchange_81
        · skip
          by_cases c5 : a1 = 6
          · refine tb_in (k := 6) (off := 81) (tgt := 82) hx hb dX4_portOrExchange_1 c5 (by decide) (by decide) (by decide) (by decide) ?_
            refine lv_aload_n hx hb dX4_portOrExchange_82 rfl (lv_at hl 0 rfl) ?_
            refine lv_iconst (v := 0) hx hb dX4_portOrExchange_83 (by decide) ?_
            refine va_put (D := (dC, dI)) (ci := 4) (v := .int (bI false)) (ty := .boolean) (C := RX4) (T := TX4) (N := 13) hx hb hts iX4_portOrExchange_X4 tyX4 tyX4_ok nmX4 hown hK hP hD hS 0 rfl rfl 9 (by decide) (hts _ qX4_portOrExchange_0) (fun _ h9 => h9) rfl (by decide +kernel) (bI_nar false) (bI_fit false) (Nat.le_of_ble_eq_true rfl) dX4_portOrExchange_84 (fun H locs hP hD hS => ?_)
            obtain ⟨hP, hD⟩ := pP_P_on hP hD
            refine lv_iconst (v := 4) hx hb dX4_portOrExchange_87 (by decide) ?_
            exact W.iret (v := 4) hx hb hr (fun t ht hW => ⟨⟨4, (sPW_P_on u false), rfl, ⟨(by simp only [f_X4_portOrExchange, if_neg c1, if_neg c2, if_neg c3, if_neg c4, if_pos c5]), (by simp only [f_X4_portOrExchange, if_neg c1, if_neg c2, if_neg c3, if_neg c4, if_pos c5])⟩, by rw [ht]; exact hP, va_K.moved hW.alike hK, hD⟩, hS.F ht⟩) hS.2.2 dX4_portOrExchange_88
          · skip
            refine lv_tableOut (tgt := 89) hx hb dX4_portOrExchange_1 (by have r2 := lv_neT c1 (a := 2) (by decide); have r3 := lv_neT c2 (a := 3) (by decide); have r4 := lv_neT c3 (a := 4) (by decide); have r5 := lv_neT c4 (a := 5) (by decide); have r6 := lv_neT c5 (a := 6) (by decide); omega) (by decide) ?_
            refine lv_aload_n hx hb dX4_portOrExchange_89 rfl (lv_at hl 0 rfl) ?_
            refine lv_iconst (v := 1) hx hb dX4_portOrExchange_90 (by decide) ?_
            refine va_put (D := (dC, dI)) (ci := 4) (v := .int (bI true)) (ty := .boolean) (C := RX4) (T := TX4) (N := 13) hx hb hts iX4_portOrExchange_X4 tyX4 tyX4_ok nmX4 hown hK hP hD hS 0 rfl rfl 9 (by decide) (hts _ qX4_portOrExchange_0) (fun _ h9 => h9) rfl (by decide +kernel) (bI_nar true) (bI_fit true) (Nat.le_of_ble_eq_true rfl) dX4_portOrExchange_91 (fun H locs hP hD hS => ?_)
            obtain ⟨hP, hD⟩ := pP_P_on hP hD
            refine lv_aload_n hx hb dX4_portOrExchange_94 rfl (lv_at hl 0 rfl) ?_
            refine lv_iconst (v := 1) hx hb dX4_portOrExchange_95 (by decide) ?_
            refine va_put (D := (dC, dI)) (ci := 4) (v := .int (bI true)) (ty := .boolean) (C := RX4) (T := TX4) (N := 13) hx hb hts iX4_portOrExchange_X4 tyX4 tyX4_ok nmX4 hown hK hP hD hS 0 rfl rfl 10 (by decide) (hts _ qX4_portOrExchange_1) (fun _ h9 => h9) rfl (by decide +kernel) (bI_nar true) (bI_fit true) (Nat.le_of_ble_eq_true rfl) dX4_portOrExchange_96 (fun H locs hP hD hS => ?_)
            obtain ⟨hP, hD⟩ := pP_P_jon hP hD
            refine lv_iconst (v := 4) hx hb dX4_portOrExchange_99 (by decide) ?_
            exact W.iret (v := 4) hx hb hr (fun t ht hW => ⟨⟨4, (sPW_P_jon (sPW_P_on u true) true), rfl, ⟨(by simp only [f_X4_portOrExchange, if_neg c1, if_neg c2, if_neg c3, if_neg c4, if_neg c5]), (by simp only [f_X4_portOrExchange, if_neg c1, if_neg c2, if_neg c3, if_neg c4, if_neg c5])⟩, by rw [ht]; exact hP, va_K.moved hW.alike hK, hD⟩, hS.F ht⟩) hS.2.2 dX4_portOrExchange_100
