def f_X4_firstQuarter (u : PW) (a1 : Int32) (a2 : Int32) : Int32 × PW := 
  if a2 = 0 then (4, u)
  else 
    if a2 = 1 then ((f_X4_setOrAddPair u a1).1, (f_X4_setOrAddPair u a1).2)
    else 
      if a2 = 2 then ((f_X4_moveByAddress u a1).1, (f_X4_moveByAddress u a1).2)
      else 
        if a2 = 3 then ((f_X4_stepPair u a1).1, (f_X4_stepPair u a1).2)
        else 
          if a2 = 4 then ((if a1 = (6 : Int32) then 10 else 5 : Int32), (f_X4_setValue (sPW_F u (f_X0_oneMore (gPW_F u) (f_X4_value u a1)).2) a1 (f_X0_oneMore (gPW_F u) (f_X4_value u a1)).1))
          else 
            if a2 = 5 then ((if a1 = (6 : Int32) then 10 else 5 : Int32), (f_X4_setValue (sPW_F u (f_X0_oneLess (gPW_F u) (f_X4_value u a1)).2) a1 (f_X0_oneLess (gPW_F u) (f_X4_value u a1)).1))
            else 
              if a2 = 6 then ((if a1 = (6 : Int32) then 10 else 7 : Int32), (f_X4_setValue (f_X4_nextByte u).2 a1 (f_X4_nextByte u).1))
              else (4, (sPW_P_r (sPW_F u (f_X0_adjust (gPW_F u) a1 ((gPW_P_r u) (7 : Int32).toNatClampNeg)).2) (upd (gPW_P_r (sPW_F u (f_X0_adjust (gPW_F u) a1 ((gPW_P_r u) (7 : Int32).toNatClampNeg)).2)) (7 : Int32).toNatClampNeg (f_X0_adjust (gPW_F u) a1 ((gPW_P_r u) (7 : Int32).toNatClampNeg)).1)))
theorem qX4_firstQuarter_0 : Cond.fieldLink RX4 27 "DiskMachine$Processor" "registers" "[I" ∈ wsX4_firstQuarter := by decide +kernel
theorem qX4_firstQuarter_1 : Cond.fieldLink RX4 23 "DiskMachine$Processor" "arithmetic" "LDiskMachine$Arithmetic;" ∈ wsX4_firstQuarter := by decide +kernel
theorem iX4_firstQuarter_X4 : ∀ w ∈ wsX40, w ∈ wsX4_firstQuarter := by decide +kernel
set_option maxHeartbeats 4000000 in
set_option maxRecDepth 100000 in
theorem k_X4_firstQuarter (l : Launch) (dC : Nat → ClassId) (dI : Nat → Nat → Nat) (cI : ClassId) (pO mS mA dS dA cO iA oA kO fO aO rA : Nat) (sz : Nat) (u : PW) (a1 : Int32) (a2 : Int32) (h1 : vp_in a1 8) : Met l yX4_firstQuarter wsX4_firstQuarter ({ frames := 4, cells := 0, slots := 0, locals := 89 }) (va_Pc [.ref pO, .int a1, .int a2] (wB dC dI [(cI, .int)] sz (wP cI pO mS mA dS dA cO iA oA kO fO aO rA u))) (va_Qi (fun (r : Int32) (u' : PW) => r = (f_X4_firstQuarter u a1 a2).1 ∧ u' = (f_X4_firstQuarter u a1 a2).2) (fun u' => wE dC dI [(cI, .int)] (va_A (wP cI pO mS mA dS dA cO iA oA kO fO aO rA u) sz) (wP cI pO mS mA dS dA cO iA oA kO fO aO rA u')) (va_A (wP cI pO mS mA dS dA cO iA oA kO fO aO rA u) sz)) 0 0 (va_A (wP cI pO mS mA dS dA cO iA oA kO fO aO rA u) sz) := by
  refine Met.ofW (cc := cX4_firstQuarter) (maxL := 3) (ret := (some .int)) (by decide) rfl ?_
  intro p e s m args below meth c s₁ B hml hv
  obtain ⟨rfl, hsz, hP, hK, hD0⟩ := hv
  have hx := B.exec
  have hb := B.bytes
  have hr := B.returns
  have hts := atoms_spec (ws := wsX4_firstQuarter) B.pre
  have hown : s.vm.findClass RX4 = some m.cls := findClass_of_methodNamed B.named
  have hlocks := B.notSynchronized
  subst hsz
  have hD := hD0.self (sz := s.heap.size)
  generalize hAe : va_A (wP cI pO mS mA dS dA cO iA oA kO fO aO rA u) s.heap.size = A at hD ⊢
  have hA : ∀ q : Nat, s.heap.size ≤ q → A q := fun q h => by rw [← hAe]; exact Or.inr h
  have hS : va_S A s.heap s.heap [] := va_S.rf
  have hP : va_P (dC, dI) vwCl (wP cI pO mS mA dS dA cO iA oA kO fO aO rA u) s.heap := hP
  clear hAe hD0
  have hl := lv_entry ([.ref pO, .int a1, .int a2]) (n := 3) (Nat.le_of_ble_eq_true rfl)
  rw [lg_entry_eq]
  generalize (lg_sl ([.ref pO, .int a1, .int a2]) ++ List.replicate (3 - (lg_sl ([.ref pO, .int a1, .int a2])).length) Slot.unset).toArray = ls at hl ⊢
  have hl : lv_has ls 3 [(0, .ref pO), (1, .int a1), (2, .int a2)] := hl
  refine jn_H hP hS (fun H locs hP hS => ?_)
  refine lv_iload_n hx hb dX4_firstQuarter_0 rfl (lv_at hl 2 rfl) ?_
  by_cases c1 : a2 = 0
  · refine tb_in (k := 0) (off := 43) (tgt := 44) hx hb dX4_firstQuarter_1 c1 (by decide) (by decide) (by decide) (by decide) ?_
    refine lv_iconst (v := 4) hx hb dX4_firstQuarter_44 (by decide) ?_
    exact W.iret (v := 4) hx hb hr (fun t ht hW => ⟨⟨4, u, rfl, ⟨(by simp only [f_X4_firstQuarter, if_pos c1]), (by simp only [f_X4_firstQuarter, if_pos c1])⟩, by rw [ht]; exact hP, va_K.moved hW.alike hK, hD⟩, hS.F ht⟩) hS.2.2 dX4_firstQuarter_45
  · skip
    by_cases c2 : a2 = 1
    · refine tb_in (k := 1) (off := 45) (tgt := 46) hx hb dX4_firstQuarter_1 c2 (by decide) (by decide) (by decide) (by decide) ?_
      refine lv_aload_n hx hb dX4_firstQuarter_46 rfl (lv_at hl 0 rfl) ?_
      refine lv_iload_n hx hb dX4_firstQuarter_47 rfl (lv_at hl 1 rfl) ?_
      obtain ⟨hPc, hDc, hFc⟩ := xP_P hP hD hS hA
      have hKc := hK.sub (tys' := [(cI, .int)]) [0] rfl
      refine va_calli (va_runV (As := [.int a1]) (rest := []) ⟨hx, hb, hml, hown, hts⟩ (k_X4_setOrAddPair l dC dI cI pO mS mA dS dA cO iA oA kO fO aO rA H.size u a1 h1) (cwV 1 hts gX4_firstQuarter_X4_setOrAddPair rfl rfl rfl (by decide +kernel) ⟨Nat.le_of_ble_eq_true rfl, Nat.le_of_ble_eq_true rfl⟩) ⟨fun a U g mk q => by obtain ⟨q0, q1, qP, qK, qD⟩ := q; exact ⟨q0, q1, qP, va_K.moved (u := U) (U := U.calling g mk a) (Vm.Alike.refl U.vm) qK, qD⟩, va_recv hKc hPc (ci := 4) (q0 := 0) rfl rfl, fun U hU hW => ⟨rfl, by rw [hU], by rw [hU]; exact hPc, va_K.moved hW.alike hKc, hDc.weaken (fun _ _ _ _ => trivial)⟩⟩ rfl rfl hl.1 rfl (lv_room (Nat.le_of_ble_eq_true rfl)) dX4_firstQuarter_48 ⟨Nat.le_of_ble_eq_true rfl, Nat.le_of_ble_eq_true rfl⟩) hS (fun q _ h => hFc q h) hFc (fun r9 u9 t H1 locs ht hvm hw hB hz1 hk1 hS => ?_)
      obtain ⟨rfl, rfl⟩ := hw
      obtain ⟨hP1, hK1, hD1⟩ := hB
      rw [ht] at hP1
      obtain ⟨hP, hD⟩ := jP_P hP hD hk1 hFc hP1 hD1
      clear hPc hDc hKc hFc hz1 hk1 hP1 hK1 hD1 ht hvm
      generalize H1 = H at hP hS ⊢
      exact W.iret (v := (f_X4_setOrAddPair u a1).1) hx hb hr (fun t ht hW => ⟨⟨(f_X4_setOrAddPair u a1).1, (f_X4_setOrAddPair u a1).2, rfl, ⟨(by simp only [f_X4_firstQuarter, if_neg c1, if_pos c2]), (by simp only [f_X4_firstQuarter, if_neg c1, if_pos c2])⟩, by rw [ht]; exact hP, va_K.moved hW.alike hK, hD⟩, hS.F ht⟩) hS.2.2 dX4_firstQuarter_51
    · skip
      by_cases c3 : a2 = 2
      · refine tb_in (k := 2) (off := 51) (tgt := 52) hx hb dX4_firstQuarter_1 c3 (by decide) (by decide) (by decide) (by decide) ?_
        refine lv_aload_n hx hb dX4_firstQuarter_52 rfl (lv_at hl 0 rfl) ?_
        refine lv_iload_n hx hb dX4_firstQuarter_53 rfl (lv_at hl 1 rfl) ?_
        obtain ⟨hPc, hDc, hFc⟩ := xP_P hP hD hS hA
        have hKc := hK.sub (tys' := [(cI, .int)]) [0] rfl
        refine va_calli (va_runV (As := [.int a1]) (rest := []) ⟨hx, hb, hml, hown, hts⟩ (k_X4_moveByAddress l dC dI cI pO mS mA dS dA cO iA oA kO fO aO rA H.size u a1 h1) (cwV 1 hts gX4_firstQuarter_X4_moveByAddress rfl rfl rfl (by decide +kernel) ⟨Nat.le_of_ble_eq_true rfl, Nat.le_of_ble_eq_true rfl⟩) ⟨fun a U g mk q => by obtain ⟨q0, q1, qP, qK, qD⟩ := q; exact ⟨q0, q1, qP, va_K.moved (u := U) (U := U.calling g mk a) (Vm.Alike.refl U.vm) qK, qD⟩, va_recv hKc hPc (ci := 4) (q0 := 0) rfl rfl, fun U hU hW => ⟨rfl, by rw [hU], by rw [hU]; exact hPc, va_K.moved hW.alike hKc, hDc.weaken (fun _ _ _ _ => trivial)⟩⟩ rfl rfl hl.1 rfl (lv_room (Nat.le_of_ble_eq_true rfl)) dX4_firstQuarter_54 ⟨Nat.le_of_ble_eq_true rfl, Nat.le_of_ble_eq_true rfl⟩) hS (fun q _ h => hFc q h) hFc (fun r9 u9 t H1 locs ht hvm hw hB hz1 hk1 hS => ?_)
        obtain ⟨rfl, rfl⟩ := hw
        obtain ⟨hP1, hK1, hD1⟩ := hB
        rw [ht] at hP1
        obtain ⟨hP, hD⟩ := jP_P hP hD hk1 hFc hP1 hD1
        clear hPc hDc hKc hFc hz1 hk1 hP1 hK1 hD1 ht hvm
        generalize H1 = H at hP hS ⊢
        exact W.iret (v := (f_X4_moveByAddress u a1).1) hx hb hr (fun t ht hW => ⟨⟨(f_X4_moveByAddress u a1).1, (f_X4_moveByAddress u a1).2, rfl, ⟨(by simp only [f_X4_firstQuarter, if_neg c1, if_neg c2, if_pos c3]), (by simp only [f_X4_firstQuarter, if_neg c1, if_neg c2, if_pos c3])⟩, by rw [ht]; exact hP, va_K.moved hW.alike hK, hD⟩, hS.F ht⟩) hS.2.2 dX4_firstQuarter_57
      · skip
        by_cases c4 : a2 = 3
        · refine tb_in (k := 3) (off := 57) (tgt := 58) hx hb dX4_firstQuarter_1 c4 (by decide) (by decide) (by decide) (by decide) ?_
          refine lv_aload_n hx hb dX4_firstQuarter_58 rfl (lv_at hl 0 rfl) ?_
          refine lv_iload_n hx hb dX4_firstQuarter_59 rfl (lv_at hl 1 rfl) ?_
          obtain ⟨hPc, hDc, hFc⟩ := xP_P hP hD hS hA
          have hKc := hK.sub (tys' := [(cI, .int)]) [0] rfl
          refine va_calli (va_runV (As := [.int a1]) (rest := []) ⟨hx, hb, hml, hown, hts⟩ (k_X4_stepPair l dC dI cI pO mS mA dS dA cO iA oA kO fO aO rA H.size u a1 h1) (cwV 1 hts gX4_firstQuarter_X4_stepPair rfl rfl rfl (by decide +kernel) ⟨Nat.le_of_ble_eq_true rfl, Nat.le_of_ble_eq_true rfl⟩) ⟨fun a U g mk q => by obtain ⟨q0, q1, qP, qK, qD⟩ := q; exact ⟨q0, q1, qP, va_K.moved (u := U) (U := U.calling g mk a) (Vm.Alike.refl U.vm) qK, qD⟩, va_recv hKc hPc (ci := 4) (q0 := 0) rfl rfl, fun U hU hW => ⟨rfl, by rw [hU], by rw [hU]; exact hPc, va_K.moved hW.alike hKc, hDc.weaken (fun _ _ _ _ => trivial)⟩⟩ rfl rfl hl.1 rfl (lv_room (Nat.le_of_ble_eq_true rfl)) dX4_firstQuarter_60 ⟨Nat.le_of_ble_eq_true rfl, Nat.le_of_ble_eq_true rfl⟩) hS (fun q _ h => hFc q h) hFc (fun r9 u9 t H1 locs ht hvm hw hB hz1 hk1 hS => ?_)
          obtain ⟨rfl, rfl⟩ := hw
          obtain ⟨hP1, hK1, hD1⟩ := hB
          rw [ht] at hP1
          obtain ⟨hP, hD⟩ := jP_P hP hD hk1 hFc hP1 hD1
          clear hPc hDc hKc hFc hz1 hk1 hP1 hK1 hD1 ht hvm
          generalize H1 = H at hP hS ⊢
          exact W.iret (v := (f_X4_stepPair u a1).1) hx hb hr (fun t ht hW => ⟨⟨(f_X4_stepPair u a1).1, (f_X4_stepPair u a1).2, rfl, ⟨(by simp only [f_X4_firstQuarter, if_neg c1, if_neg c2, if_neg c3, if_pos c4]), (by simp only [f_X4_firstQuarter, if_neg c1, if_neg c2, if_neg c3, if_pos c4])⟩, by rw [ht]; exact hP, va_K.moved hW.alike hK, hD⟩, hS.F ht⟩) hS.2.2 dX4_firstQuarter_63
        · skip
          by_cases c5 : a2 = 4
          · refine tb_in (k := 4) (off := 63) (tgt := 64) hx hb dX4_firstQuarter_1 c5 (by decide) (by decide) (by decide) (by decide) ?_
            refine lv_aload_n hx hb dX4_firstQuarter_64 rfl (lv_at hl 0 rfl) ?_
            refine lv_iload_n hx hb dX4_firstQuarter_65 rfl (lv_at hl 1 rfl) ?_
            refine lv_aload_n hx hb dX4_firstQuarter_66 rfl (lv_at hl 0 rfl) ?_
            refine va_get (D := (dC, dI)) (ci := 4) (v := .ref aO) (C := RX4) (T := TX4) (N := 13) hx hb hts iX4_firstQuarter_X4 hown hK hP 0 rfl rfl 4 (by decide) (hts _ qX4_firstQuarter_1) (fun _ h9 => h9) rfl dX4_firstQuarter_67 ?_
            refine lv_aload_n hx hb dX4_firstQuarter_70 rfl (lv_at hl 0 rfl) ?_
            refine lv_iload_n hx hb dX4_firstQuarter_71 rfl (lv_at hl 1 rfl) ?_
            obtain ⟨hPc, hDc, hFc⟩ := xP_P hP hD hS hA
            have hKc := hK.sub (tys' := [(cI, .int)]) [0] rfl
            refine va_calli (va_runV (As := [.int a1]) (rest := [.ref aO, .int a1, .ref pO]) ⟨hx, hb, hml, hown, hts⟩ (k_X4_value l dC dI cI pO mS mA dS dA cO iA oA kO fO aO rA H.size u a1 h1) (cwV 1 hts gX4_firstQuarter_X4_value rfl rfl rfl (by decide +kernel) ⟨Nat.le_of_ble_eq_true rfl, Nat.le_of_ble_eq_true rfl⟩) ⟨fun a U g mk q => by obtain ⟨q0, q1, qP, qK, qD⟩ := q; exact ⟨q0, q1, qP, va_K.moved (u := U) (U := U.calling g mk a) (Vm.Alike.refl U.vm) qK, qD⟩, va_recv hKc hPc (ci := 4) (q0 := 0) rfl rfl, fun U hU hW => ⟨rfl, by rw [hU], by rw [hU]; exact hPc, va_K.moved hW.alike hKc, hDc.weaken (fun _ _ _ _ => trivial)⟩⟩ rfl rfl hl.1 rfl (lv_room (Nat.le_of_ble_eq_true rfl)) dX4_firstQuarter_72 ⟨Nat.le_of_ble_eq_true rfl, Nat.le_of_ble_eq_true rfl⟩) hS (fun q _ h => hFc q h) hFc (fun r9 u9 t H1 locs ht hvm hw hB hz1 hk1 hS => ?_)
            obtain ⟨hw1, hw2⟩ := hw
            have hw2 := hw2.symm
            subst hw1 hw2
            obtain ⟨hP1, hK1, hD1⟩ := hB
            rw [ht] at hP1
            obtain ⟨hP, hD⟩ := jP_P0 hP hD hk1 hFc hP1 hD1
            clear hPc hDc hKc hFc hz1 hk1 hP1 hK1 hD1 ht hvm
            generalize H1 = H at hP hS ⊢
            obtain ⟨hPc, hDc, hFc⟩ := xP_A hP hD hS hA
            have hKc := hK.sub (tys' := [(cI, .int)]) [0] rfl
            refine va_calli (va_runV (As := [.int (f_X4_value u a1)]) (rest := [.int a1, .ref pO]) ⟨hx, hb, hml, hown, hts⟩ (k_X0_oneMore l dC dI cI aO fO H.size (gPW_F u) (f_X4_value u a1)) (cwV 1 hts gX4_firstQuarter_X0_oneMore rfl rfl rfl (by decide +kernel) ⟨Nat.le_of_ble_eq_true rfl, Nat.le_of_ble_eq_true rfl⟩) ⟨fun a U g mk q => by obtain ⟨q0, q1, qP, qK, qD⟩ := q; exact ⟨q0, q1, qP, va_K.moved (u := U) (U := U.calling g mk a) (Vm.Alike.refl U.vm) qK, qD⟩, va_recv hKc hPc (ci := 0) (q0 := 0) rfl rfl, fun U hU hW => ⟨rfl, by rw [hU], by rw [hU]; exact hPc, va_K.moved hW.alike hKc, hDc.weaken (fun _ _ _ _ => trivial)⟩⟩ rfl rfl hl.1 rfl (lv_room (Nat.le_of_ble_eq_true rfl)) dX4_firstQuarter_75 ⟨Nat.le_of_ble_eq_true rfl, Nat.le_of_ble_eq_true rfl⟩) hS (fun q _ h => hFc q h) hFc (fun r9 u9 t H1 locs ht hvm hw hB hz1 hk1 hS => ?_)
            obtain ⟨rfl, rfl⟩ := hw
            obtain ⟨hP1, hK1, hD1⟩ := hB
            rw [ht] at hP1
            obtain ⟨hP, hD⟩ := jP_A hP hD hk1 hFc hP1 hD1
            clear hPc hDc hKc hFc hz1 hk1 hP1 hK1 hD1 ht hvm
            generalize H1 = H at hP hS ⊢
            obtain ⟨hPc, hDc, hFc⟩ := xP_P hP hD hS hA
            have hKc := hK.sub (tys' := [(cI, .int)]) [0] rfl
            refine va_callv (va_runV (As := [.int a1, .int (f_X0_oneMore (gPW_F u) (f_X4_value u a1)).1]) (rest := []) ⟨hx, hb, hml, hown, hts⟩ (k_X4_setValue l dC dI cI pO mS mA dS dA cO iA oA kO fO aO rA H.size (sPW_F u (f_X0_oneMore (gPW_F u) (f_X4_value u a1)).2) a1 (f_X0_oneMore (gPW_F u) (f_X4_value u a1)).1 h1) (cwV 2 hts gX4_firstQuarter_X4_setValue rfl rfl rfl (by decide +kernel) ⟨Nat.le_of_ble_eq_true rfl, Nat.le_of_ble_eq_true rfl⟩) ⟨fun a U g mk q => by obtain ⟨q0, q1, qP, qK, qD⟩ := q; exact ⟨q0, q1, qP, va_K.moved (u := U) (U := U.calling g mk a) (Vm.Alike.refl U.vm) qK, qD⟩, va_recv hKc hPc (ci := 4) (q0 := 0) rfl rfl, fun U hU hW => ⟨rfl, by rw [hU], by rw [hU]; exact hPc, va_K.moved hW.alike hKc, hDc.weaken (fun _ _ _ _ => trivial)⟩⟩ rfl rfl hl.1 rfl (lv_room (Nat.le_of_ble_eq_true rfl)) dX4_firstQuarter_78 ⟨Nat.le_of_ble_eq_true rfl, Nat.le_of_ble_eq_true rfl⟩) hS (fun q _ h => hFc q h) hFc (fun u9 t H1 locs ht hvm hw hB hz1 hk1 hS => ?_)
            subst hw
            obtain ⟨hP1, hK1, hD1⟩ := hB
            rw [ht] at hP1
            obtain ⟨hP, hD⟩ := jP_P hP hD hk1 hFc hP1 hD1
            clear hPc hDc hKc hFc hz1 hk1 hP1 hK1 hD1 ht hvm
            generalize H1 = H at hP hS ⊢
            refine lv_iload_n hx hb dX4_firstQuarter_81 rfl (lv_at hl 1 rfl) ?_
            refine lv_bipush (v := 6) hx hb dX4_firstQuarter_82 (by decide) ?_
            refine jn_i (D := (dC, dI)) (cl := vwCl) (ws := (wP cI pO mS mA dS dA cO iA oA kO fO aO rA (f_X4_setValue (sPW_F u (f_X0_oneMore (gPW_F u) (f_X4_value u a1)).2) a1 (f_X0_oneMore (gPW_F u) (f_X4_value u a1)).1))) (A := A) (H0 := s.heap) (nL := 3) 93 (if a1 = (6 : Int32) then 10 else 5 : Int32) [(0, .ref pO), (1, .int a1), (2, .int a2)] [] (fun H locs ls hP hS hl => ?_) (fun hJ6 => ?_)
            · skip
              exact W.iret (v := (if a1 = (6 : Int32) then 10 else 5 : Int32)) hx hb hr (fun t ht hW => ⟨⟨(if a1 = (6 : Int32) then 10 else 5 : Int32), (f_X4_setValue (sPW_F u (f_X0_oneMore (gPW_F u) (f_X4_value u a1)).2) a1 (f_X0_oneMore (gPW_F u) (f_X4_value u a1)).1), rfl, ⟨(by simp only [f_X4_firstQuarter, if_neg c1, if_neg c2, if_neg c3, if_neg c4, if_pos c5]), (by simp only [f_X4_firstQuarter, if_neg c1, if_neg c2, if_neg c3, if_neg c4, if_pos c5])⟩, by rw [ht]; exact hP, va_K.moved hW.alike hK, hD⟩, hS.F ht⟩) hS.2.2 dX4_firstQuarter_93
            · skip
              refine lv_icmp_ne (tgt := 92) hx hb dX4_firstQuarter_84 (by decide) (fun c7 => ?_) (fun c7 => ?_)
              · skip
                refine lv_iconst (v := 5) hx hb dX4_firstQuarter_92 (by decide) ?_
                exact hJ6 5 _ _ _ (by simp only [if_neg c7]) hP hS (lv_sub hl [0, 1, 2] rfl)
              · skip
                refine lv_bipush (v := 10) hx hb dX4_firstQuarter_87 (by decide) ?_
                refine lv_goto (tgt := 93) hx hb dX4_firstQuarter_89 (by decide) ?_
                exact hJ6 10 _ _ _ (by simp only [if_pos c7]) hP hS (lv_sub hl [0, 1, 2] rfl)
          · skip
            by_cases c8 : a2 = 5
            · refine tb_in (k := 5) (off := 93) (tgt := 94) hx hb dX4_firstQuarter_1 c8 (by decide) (by decide) (by decide) (by decide) ?_
              refine lv_aload_n hx hb dX4_firstQuarter_94 rfl (lv_at hl 0 rfl) ?_
              refine lv_iload_n hx hb dX4_firstQuarter_95 rfl (lv_at hl 1 rfl) ?_
              refine lv_aload_n hx hb dX4_firstQuarter_96 rfl (lv_at hl 0 rfl) ?_
              refine va_get (D := (dC, dI)) (ci := 4) (v := .ref aO) (C := RX4) (T := TX4) (N := 13) hx hb hts iX4_firstQuarter_X4 hown hK hP 0 rfl rfl 4 (by decide) (hts _ qX4_firstQuarter_1) (fun _ h9 => h9) rfl dX4_firstQuarter_97 ?_
              refine lv_aload_n hx hb dX4_firstQuarter_100 rfl (lv_at hl 0 rfl) ?_
              refine lv_iload_n hx hb dX4_firstQuarter_101 rfl (lv_at hl 1 rfl) ?_
              obtain ⟨hPc, hDc, hFc⟩ := xP_P hP hD hS hA
              have hKc := hK.sub (tys' := [(cI, .int)]) [0] rfl
              refine va_calli (va_runV (As := [.int a1]) (rest := [.ref aO, .int a1, .ref pO]) ⟨hx, hb, hml, hown, hts⟩ (k_X4_value l dC dI cI pO mS mA dS dA cO iA oA kO fO aO rA H.size u a1 h1) (cwV 1 hts gX4_firstQuarter_X4_value rfl rfl rfl (by decide +kernel) ⟨Nat.le_of_ble_eq_true rfl, Nat.le_of_ble_eq_true rfl⟩) ⟨fun a U g mk q => by obtain ⟨q0, q1, qP, qK, qD⟩ := q; exact ⟨q0, q1, qP, va_K.moved (u := U) (U := U.calling g mk a) (Vm.Alike.refl U.vm) qK, qD⟩, va_recv hKc hPc (ci := 4) (q0 := 0) rfl rfl, fun U hU hW => ⟨rfl, by rw [hU], by rw [hU]; exact hPc, va_K.moved hW.alike hKc, hDc.weaken (fun _ _ _ _ => trivial)⟩⟩ rfl rfl hl.1 rfl (lv_room (Nat.le_of_ble_eq_true rfl)) dX4_firstQuarter_102 ⟨Nat.le_of_ble_eq_true rfl, Nat.le_of_ble_eq_true rfl⟩) hS (fun q _ h => hFc q h) hFc (fun r9 u9 t H1 locs ht hvm hw hB hz1 hk1 hS => ?_)
              obtain ⟨hw1, hw2⟩ := hw
              have hw2 := hw2.symm
              subst hw1 hw2
              obtain ⟨hP1, hK1, hD1⟩ := hB
              rw [ht] at hP1
              obtain ⟨hP, hD⟩ := jP_P0 hP hD hk1 hFc hP1 hD1
              clear hPc hDc hKc hFc hz1 hk1 hP1 hK1 hD1 ht hvm
              generalize H1 = H at hP hS ⊢
              obtain ⟨hPc, hDc, hFc⟩ := xP_A hP hD hS hA
              have hKc := hK.sub (tys' := [(cI, .int)]) [0] rfl
              refine va_calli (va_runV (As := [.int (f_X4_value u a1)]) (rest := [.int a1, .ref pO]) ⟨hx, hb, hml, hown, hts⟩ (k_X0_oneLess l dC dI cI aO fO H.size (gPW_F u) (f_X4_value u a1)) (cwV 1 hts gX4_firstQuarter_X0_oneLess rfl rfl rfl (by decide +kernel) ⟨Nat.le_of_ble_eq_true rfl, Nat.le_of_ble_eq_true rfl⟩) ⟨fun a U g mk q => by obtain ⟨q0, q1, qP, qK, qD⟩ := q; exact ⟨q0, q1, qP, va_K.moved (u := U) (U := U.calling g mk a) (Vm.Alike.refl U.vm) qK, qD⟩, va_recv hKc hPc (ci := 0) (q0 := 0) rfl rfl, fun U hU hW => ⟨rfl, by rw [hU], by rw [hU]; exact hPc, va_K.moved hW.alike hKc, hDc.weaken (fun _ _ _ _ => trivial)⟩⟩ rfl rfl hl.1 rfl (lv_room (Nat.le_of_ble_eq_true rfl)) dX4_firstQuarter_105 ⟨Nat.le_of_ble_eq_true rfl, Nat.le_of_ble_eq_true rfl⟩) hS (fun q _ h => hFc q h) hFc (fun r9 u9 t H1 locs ht hvm hw hB hz1 hk1 hS => ?_)
              obtain ⟨rfl, rfl⟩ := hw
              obtain ⟨hP1, hK1, hD1⟩ := hB
              rw [ht] at hP1
              obtain ⟨hP, hD⟩ := jP_A hP hD hk1 hFc hP1 hD1
              clear hPc hDc hKc hFc hz1 hk1 hP1 hK1 hD1 ht hvm
              generalize H1 = H at hP hS ⊢
              obtain ⟨hPc, hDc, hFc⟩ := xP_P hP hD hS hA
              have hKc := hK.sub (tys' := [(cI, .int)]) [0] rfl
              refine va_callv (va_runV (As := [.int a1, .int (f_X0_oneLess (gPW_F u) (f_X4_value u a1)).1]) (rest := []) ⟨hx, hb, hml, hown, hts⟩ (k_X4_setValue l dC dI cI pO mS mA dS dA cO iA oA kO fO aO rA H.size (sPW_F u (f_X0_oneLess (gPW_F u) (f_X4_value u a1)).2) a1 (f_X0_oneLess (gPW_F u) (f_X4_value u a1)).1 h1) (cwV 2 hts gX4_firstQuarter_X4_setValue rfl rfl rfl (by decide +kernel) ⟨Nat.le_of_ble_eq_true rfl, Nat.le_of_ble_eq_true rfl⟩) ⟨fun a U g mk q => by obtain ⟨q0, q1, qP, qK, qD⟩ := q; exact ⟨q0, q1, qP, va_K.moved (u := U) (U := U.calling g mk a) (Vm.Alike.refl U.vm) qK, qD⟩, va_recv hKc hPc (ci := 4) (q0 := 0) rfl rfl, fun U hU hW => ⟨rfl, by rw [hU], by rw [hU]; exact hPc, va_K.moved hW.alike hKc, hDc.weaken (fun _ _ _ _ => trivial)⟩⟩ rfl rfl hl.1 rfl (lv_room (Nat.le_of_ble_eq_true rfl)) dX4_firstQuarter_108 ⟨Nat.le_of_ble_eq_true rfl, Nat.le_of_ble_eq_true rfl⟩) hS (fun q _ h => hFc q h) hFc (fun u9 t H1 locs ht hvm hw hB hz1 hk1 hS => ?_)
              subst hw
              obtain ⟨hP1, hK1, hD1⟩ := hB
              rw [ht] at hP1
              obtain ⟨hP, hD⟩ := jP_P hP hD hk1 hFc hP1 hD1
              clear hPc hDc hKc hFc hz1 hk1 hP1 hK1 hD1 ht hvm
              generalize H1 = H at hP hS ⊢
              refine lv_iload_n hx hb dX4_firstQuarter_111 rfl (lv_at hl 1 rfl) ?_
              refine lv_bipush (v := 6) hx hb dX4_firstQuarter_112 (by decide) ?_
              refine jn_i (D := (dC, dI)) (cl := vwCl) (ws := (wP cI pO mS mA dS dA cO iA oA kO fO aO rA (f_X4_setValue (sPW_F u (f_X0_oneLess (gPW_F u) (f_X4_value u a1)).2) a1 (f_X0_oneLess (gPW_F u) (f_X4_value u a1)).1))) (A := A) (H0 := s.heap) (nL := 3) 123 (if a1 = (6 : Int32) then 10 else 5 : Int32) [(0, .ref pO), (1, .int a1), (2, .int a2)] [] (fun H locs ls hP hS hl => ?_) (fun hJ9 => ?_)
              · skip
                exact W.iret (v := (if a1 = (6 : Int32) then 10 else 5 : Int32)) hx hb hr (fun t ht hW => ⟨⟨(if a1 = (6 : Int32) then 10 else 5 : Int32), (f_X4_setValue (sPW_F u (f_X0_oneLess (gPW_F u) (f_X4_value u a1)).2) a1 (f_X0_oneLess (gPW_F u) (f_X4_value u a1)).1), rfl, ⟨(by simp only [f_X4_firstQuarter, if_neg c1, if_neg c2, if_neg c3, if_neg c4, if_neg c5, if_pos c8]), (by simp only [f_X4_firstQuarter, if_neg c1, if_neg c2, if_neg c3, if_neg c4, if_neg c5, if_pos c8])⟩, by rw [ht]; exact hP, va_K.moved hW.alike hK, hD⟩, hS.F ht⟩) hS.2.2 dX4_firstQuarter_123
              · skip
                refine lv_icmp_ne (tgt := 122) hx hb dX4_firstQuarter_114 (by decide) (fun c10 => ?_) (fun c10 => ?_)
                · skip
                  refine lv_iconst (v := 5) hx hb dX4_firstQuarter_122 (by decide) ?_
                  exact hJ9 5 _ _ _ (by simp only [if_neg c10]) hP hS (lv_sub hl [0, 1, 2] rfl)
                · skip
                  refine lv_bipush (v := 10) hx hb dX4_firstQuarter_117 (by decide) ?_
                  refine lv_goto (tgt := 123) hx hb dX4_firstQuarter_119 (by decide) ?_
                  exact hJ9 10 _ _ _ (by simp only [if_pos c10]) hP hS (lv_sub hl [0, 1, 2] rfl)
            · skip
              by_cases c11 : a2 = 6
              · refine tb_in (k := 6) (off := 123) (tgt := 124) hx hb dX4_firstQuarter_1 c11 (by decide) (by decide) (by decide) (by decide) ?_
                refine lv_aload_n hx hb dX4_firstQuarter_124 rfl (lv_at hl 0 rfl) ?_
                refine lv_iload_n hx hb dX4_firstQuarter_125 rfl (lv_at hl 1 rfl) ?_
                refine lv_aload_n hx hb dX4_firstQuarter_126 rfl (lv_at hl 0 rfl) ?_
                obtain ⟨hPc, hDc, hFc⟩ := xP_P hP hD hS hA
                have hKc := hK.sub (tys' := [(cI, .int)]) [0] rfl
                refine va_calli (va_runV (As := []) (rest := [.int a1, .ref pO]) ⟨hx, hb, hml, hown, hts⟩ (k_X4_nextByte l dC dI cI pO mS mA dS dA cO iA oA kO fO aO rA H.size u) (cwV 0 hts gX4_firstQuarter_X4_nextByte rfl rfl rfl (by decide +kernel) ⟨Nat.le_of_ble_eq_true rfl, Nat.le_of_ble_eq_true rfl⟩) ⟨fun a U g mk q => by obtain ⟨q0, q1, qP, qK, qD⟩ := q; exact ⟨q0, q1, qP, va_K.moved (u := U) (U := U.calling g mk a) (Vm.Alike.refl U.vm) qK, qD⟩, va_recv hKc hPc (ci := 4) (q0 := 0) rfl rfl, fun U hU hW => ⟨rfl, by rw [hU], by rw [hU]; exact hPc, va_K.moved hW.alike hKc, hDc.weaken (fun _ _ _ _ => trivial)⟩⟩ rfl rfl hl.1 rfl (lv_room (Nat.le_of_ble_eq_true rfl)) dX4_firstQuarter_127 ⟨Nat.le_of_ble_eq_true rfl, Nat.le_of_ble_eq_true rfl⟩) hS (fun q _ h => hFc q h) hFc (fun r9 u9 t H1 locs ht hvm hw hB hz1 hk1 hS => ?_)
                obtain ⟨rfl, rfl⟩ := hw
                obtain ⟨hP1, hK1, hD1⟩ := hB
                rw [ht] at hP1
                obtain ⟨hP, hD⟩ := jP_P hP hD hk1 hFc hP1 hD1
                clear hPc hDc hKc hFc hz1 hk1 hP1 hK1 hD1 ht hvm
                generalize H1 = H at hP hS ⊢
                obtain ⟨hPc, hDc, hFc⟩ := xP_P hP hD hS hA
                have hKc := hK.sub (tys' := [(cI, .int)]) [0] rfl
                refine va_callv (va_runV (As := [.int a1, .int (f_X4_nextByte u).1]) (rest := []) ⟨hx, hb, hml, hown, hts⟩ (k_X4_setValue l dC dI cI pO mS mA dS dA cO iA oA kO fO aO rA H.size (f_X4_nextByte u).2 a1 (f_X4_nextByte u).1 h1) (cwV 2 hts gX4_firstQuarter_X4_setValue rfl rfl rfl (by decide +kernel) ⟨Nat.le_of_ble_eq_true rfl, Nat.le_of_ble_eq_true rfl⟩) ⟨fun a U g mk q => by obtain ⟨q0, q1, qP, qK, qD⟩ := q; exact ⟨q0, q1, qP, va_K.moved (u := U) (U := U.calling g mk a) (Vm.Alike.refl U.vm) qK, qD⟩, va_recv hKc hPc (ci := 4) (q0 := 0) rfl rfl, fun U hU hW => ⟨rfl, by rw [hU], by rw [hU]; exact hPc, va_K.moved hW.alike hKc, hDc.weaken (fun _ _ _ _ => trivial)⟩⟩ rfl rfl hl.1 rfl (lv_room (Nat.le_of_ble_eq_true rfl)) dX4_firstQuarter_130 ⟨Nat.le_of_ble_eq_true rfl, Nat.le_of_ble_eq_true rfl⟩) hS (fun q _ h => hFc q h) hFc (fun u9 t H1 locs ht hvm hw hB hz1 hk1 hS => ?_)
                subst hw
                obtain ⟨hP1, hK1, hD1⟩ := hB
                rw [ht] at hP1
                obtain ⟨hP, hD⟩ := jP_P hP hD hk1 hFc hP1 hD1
                clear hPc hDc hKc hFc hz1 hk1 hP1 hK1 hD1 ht hvm
                generalize H1 = H at hP hS ⊢
                refine lv_iload_n hx hb dX4_firstQuarter_133 rfl (lv_at hl 1 rfl) ?_
                refine lv_bipush (v := 6) hx hb dX4_firstQuarter_134 (by decide) ?_
                refine jn_i (D := (dC, dI)) (cl := vwCl) (ws := (wP cI pO mS mA dS dA cO iA oA kO fO aO rA (f_X4_setValue (f_X4_nextByte u).2 a1 (f_X4_nextByte u).1))) (A := A) (H0 := s.heap) (nL := 3) 146 (if a1 = (6 : Int32) then 10 else 7 : Int32) [(0, .ref pO), (1, .int a1), (2, .int a2)] [] (fun H locs ls hP hS hl => ?_) (fun hJ12 => ?_)
                · skip
                  exact W.iret (v := (if a1 = (6 : Int32) then 10 else 7 : Int32)) hx hb hr (fun t ht hW => ⟨⟨(if a1 = (6 : Int32) then 10 else 7 : Int32), (f_X4_setValue (f_X4_nextByte u).2 a1 (f_X4_nextByte u).1), rfl, ⟨(by simp only [f_X4_firstQuarter, if_neg c1, if_neg c2, if_neg c3, if_neg c4, if_neg c5, if_neg c8, if_pos c11]), (by simp only [f_X4_firstQuarter, if_neg c1, if_neg c2, if_neg c3, if_neg c4, if_neg c5, if_neg c8, if_pos c11])⟩, by rw [ht]; exact hP, va_K.moved hW.alike hK, hD⟩, hS.F ht⟩) hS.2.2 dX4_firstQuarter_146
                · skip
                  refine lv_icmp_ne (tgt := 144) hx hb dX4_firstQuarter_136 (by decide) (fun c13 => ?_) (fun c13 => ?_)
                  · skip
                    refine lv_bipush (v := 7) hx hb dX4_firstQuarter_144 (by decide) ?_
                    exact hJ12 7 _ _ _ (by simp only [if_neg c13]) hP hS (lv_sub hl [0, 1, 2] rfl)
                  · skip
                    refine lv_bipush (v := 10) hx hb dX4_firstQuarter_139 (by decide) ?_
                    refine lv_goto (tgt := 146) hx hb dX4_firstQuarter_141 (by decide) ?_
                    exact hJ12 10 _ _ _ (by simp only [if_pos c13]) hP hS (lv_sub hl [0, 1, 2] rfl)
              · skip
                refine lv_tableOut (tgt := 147) hx hb dX4_firstQuarter_1 (by have r0 := lv_neT c1 (a := 0) (by decide); have r1 := lv_neT c2 (a := 1) (by decide); have r2 := lv_neT c3 (a := 2) (by decide); have r3 := lv_neT c4 (a := 3) (by decide); have r4 := lv_neT c5 (a := 4) (by decide); have r5 := lv_neT c8 (a := 5) (by decide); have r6 := lv_neT c11 (a := 6) (by decide); omega) (by decide) ?_
                refine lv_aload_n hx hb dX4_firstQuarter_147 rfl (lv_at hl 0 rfl) ?_
                refine va_get (D := (dC, dI)) (ci := 4) (v := .ref rA) (C := RX4) (T := TX4) (N := 13) hx hb hts iX4_firstQuarter_X4 hown hK hP 0 rfl rfl 5 (by decide) (hts _ qX4_firstQuarter_0) (fun _ h9 => h9) rfl dX4_firstQuarter_148 ?_
                refine lv_bipush (v := 7) hx hb dX4_firstQuarter_151 (by decide) ?_
                refine lv_aload_n hx hb dX4_firstQuarter_153 rfl (lv_at hl 0 rfl) ?_
                refine va_get (D := (dC, dI)) (ci := 4) (v := .ref aO) (C := RX4) (T := TX4) (N := 13) hx hb hts iX4_firstQuarter_X4 hown hK hP 0 rfl rfl 4 (by decide) (hts _ qX4_firstQuarter_1) (fun _ h9 => h9) rfl dX4_firstQuarter_154 ?_
                refine lv_iload_n hx hb dX4_firstQuarter_157 rfl (lv_at hl 1 rfl) ?_
                refine lv_aload_n hx hb dX4_firstQuarter_158 rfl (lv_at hl 0 rfl) ?_
                refine va_get (D := (dC, dI)) (ci := 4) (v := .ref rA) (C := RX4) (T := TX4) (N := 13) hx hb hts iX4_firstQuarter_X4 hown hK hP 0 rfl rfl 5 (by decide) (hts _ qX4_firstQuarter_0) (fun _ h9 => h9) rfl dX4_firstQuarter_159 ?_
                refine lv_bipush (v := 7) hx hb dX4_firstQuarter_162 (by decide) ?_
                refine va_iald (f := (gPW_P_r u)) hx hb hK hP 11 0 rfl rfl (ix_lit (by decide)) dX4_firstQuarter_164 ?_
                obtain ⟨hPc, hDc, hFc⟩ := xP_A hP hD hS hA
                have hKc := hK.sub (tys' := [(cI, .int)]) [0] rfl
                refine va_calli (va_runV (As := [.int a1, .int ((gPW_P_r u) (7 : Int32).toNatClampNeg)]) (rest := [.int 7, .ref rA]) ⟨hx, hb, hml, hown, hts⟩ (k_X0_adjust l dC dI cI aO fO H.size (gPW_F u) a1 ((gPW_P_r u) (7 : Int32).toNatClampNeg)) (cwV 2 hts gX4_firstQuarter_X0_adjust rfl rfl rfl (by decide +kernel) ⟨Nat.le_of_ble_eq_true rfl, Nat.le_of_ble_eq_true rfl⟩) ⟨fun a U g mk q => by obtain ⟨q0, q1, qP, qK, qD⟩ := q; exact ⟨q0, q1, qP, va_K.moved (u := U) (U := U.calling g mk a) (Vm.Alike.refl U.vm) qK, qD⟩, va_recv hKc hPc (ci := 0) (q0 := 0) rfl rfl, fun U hU hW => ⟨rfl, by rw [hU], by rw [hU]; exact hPc, va_K.moved hW.alike hKc, hDc.weaken (fun _ _ _ _ => trivial)⟩⟩ rfl rfl hl.1 rfl (lv_room (Nat.le_of_ble_eq_true rfl)) dX4_firstQuarter_165 ⟨Nat.le_of_ble_eq_true rfl, Nat.le_of_ble_eq_true rfl⟩) hS (fun q _ h => hFc q h) hFc (fun r9 u9 t H1 locs ht hvm hw hB hz1 hk1 hS => ?_)
                obtain ⟨rfl, rfl⟩ := hw
                obtain ⟨hP1, hK1, hD1⟩ := hB
                rw [ht] at hP1
                obtain ⟨hP, hD⟩ := jP_A hP hD hk1 hFc hP1 hD1
                clear hPc hDc hKc hFc hz1 hk1 hP1 hK1 hD1 ht hvm
                generalize H1 = H at hP hS ⊢
                refine va_iast (f := (gPW_P_r (sPW_F u (f_X0_adjust (gPW_F u) a1 ((gPW_P_r u) (7 : Int32).toNatClampNeg)).2))) hx hb hK hP hD hS 11 0 rfl rfl (ix_lit (by decide)) dX4_firstQuarter_168 (fun H locs hP hD hS => ?_)
                obtain ⟨hP, hD⟩ := aP_rA hP hD
                refine lv_iconst (v := 4) hx hb dX4_firstQuarter_169 (by decide) ?_
                exact W.iret (v := 4) hx hb hr (fun t ht hW => ⟨⟨4, (sPW_P_r (sPW_F u (f_X0_adjust (gPW_F u) a1 ((gPW_P_r u) (7 : Int32).toNatClampNeg)).2) (upd (gPW_P_r (sPW_F u (f_X0_adjust (gPW_F u) a1 ((gPW_P_r u) (7 : Int32).toNatClampNeg)).2)) (7 : Int32).toNatClampNeg (f_X0_adjust (gPW_F u) a1 ((gPW_P_r u) (7 : Int32).toNatClampNeg)).1)), rfl, ⟨(by simp only [f_X4_firstQuarter, if_neg c1, if_neg c2, if_neg c3, if_neg c4, if_neg c5, if_neg c8, if_neg c11]), (by simp only [f_X4_firstQuarter, if_neg c1, if_neg c2, if_neg c3, if_neg c4, if_neg c5, if_neg c8, if_neg c11])⟩, by rw [ht]; exact hP, va_K.moved hW.alike hK, hD⟩, hS.F ht⟩) hS.2.2 dX4_firstQuarter_170

def f_X4_lastQuarter (u : PW) (a1 : Int32) (a2 : Int32) : Int32 × PW := 
  if a2 = 0 then ((f_X4_returnIf u a1).1, (f_X4_returnIf u a1).2)
  else 
    if a2 = 1 then ((f_X4_popOrReturn u a1).1, (f_X4_popOrReturn u a1).2)
    else 
      if a2 = 2 then ((f_X4_jumpIf u (f_X3_holds (gPW_F u) a1)).1, (f_X4_jumpIf u (f_X3_holds (gPW_F u) a1)).2)
      else 
        if a2 = 3 then 
          if (2 : Int32) ≤ a1 then ((f_X4_portOrExchange u a1).1, (f_X4_portOrExchange u a1).2)
          else ((f_X4_jumpIf u true).1, (f_X4_jumpIf u true).2)
        else 
          if a2 = 4 then ((f_X4_callIf u (f_X3_holds (gPW_F u) a1)).1, (f_X4_callIf u (f_X3_holds (gPW_F u) a1)).2)
          else 
            if a2 = 5 then 
              if (a1 &&& (1 : Int32)) = (0 : Int32) then ((f_X4_pushPair u a1).1, (f_X4_pushPair u a1).2)
              else ((f_X4_callIf u true).1, (f_X4_callIf u true).2)
            else 
              if a2 = 6 then (7, (sPW_P_r (sPW_F (f_X4_nextByte u).2 (f_X0_combine (gPW_F (f_X4_nextByte u).2) a1 ((gPW_P_r u) (7 : Int32).toNatClampNeg) (f_X4_nextByte u).1).2) (upd (gPW_P_r (sPW_F (f_X4_nextByte u).2 (f_X0_combine (gPW_F (f_X4_nextByte u).2) a1 ((gPW_P_r u) (7 : Int32).toNatClampNeg) (f_X4_nextByte u).1).2)) (7 : Int32).toNatClampNeg (f_X0_combine (gPW_F (f_X4_nextByte u).2) a1 ((gPW_P_r u) (7 : Int32).toNatClampNeg) (f_X4_nextByte u).1).1)))
              else (11, (sPW_P_pc (f_X4_push u (gPW_P_pc u)) ((8 : Int32) * a1)))
theorem qX4_lastQuarter_0 : Cond.fieldLink RX4 51 "DiskMachine$Processor" "pc" "I" ∈ wsX4_lastQuarter := by decide +kernel
theorem qX4_lastQuarter_1 : Cond.fieldLink RX4 27 "DiskMachine$Processor" "registers" "[I" ∈ wsX4_lastQuarter := by decide +kernel
theorem qX4_lastQuarter_2 : Cond.fieldLink RX4 23 "DiskMachine$Processor" "arithmetic" "LDiskMachine$Arithmetic;" ∈ wsX4_lastQuarter := by decide +kernel
theorem qX4_lastQuarter_3 : Cond.fieldLink RX4 12 "DiskMachine$Processor" "flags" "LDiskMachine$Flags;" ∈ wsX4_lastQuarter := by decide +kernel
theorem iX4_lastQuarter_X4 : ∀ w ∈ wsX40, w ∈ wsX4_lastQuarter := by decide +kernel
set_option maxHeartbeats 4000000 in
set_option maxRecDepth 100000 in
theorem k_X4_lastQuarter (l : Launch) (dC : Nat → ClassId) (dI : Nat → Nat → Nat) (cI : ClassId) (pO mS mA dS dA cO iA oA kO fO aO rA : Nat) (sz : Nat) (u : PW) (a1 : Int32) (a2 : Int32) (h1 : vp_in a1 8) (hC : ∃ i j : Nat, i < 64 ∧ j ≤ 64 ∧ gCS_fst (gPW_C u) = nI i ∧ gCS_cnt (gPW_C u) = nI j) : Met l yX4_lastQuarter wsX4_lastQuarter ({ frames := 4, cells := 0, slots := 0, locals := 88 }) (va_Pc [.ref pO, .int a1, .int a2] (wB dC dI [(cI, .int)] sz (wP cI pO mS mA dS dA cO iA oA kO fO aO rA u))) (va_Qi (fun (r : Int32) (u' : PW) => r = (f_X4_lastQuarter u a1 a2).1 ∧ u' = (f_X4_lastQuarter u a1 a2).2) (fun u' => wE dC dI [(cI, .int)] (va_A (wP cI pO mS mA dS dA cO iA oA kO fO aO rA u) sz) (wP cI pO mS mA dS dA cO iA oA kO fO aO rA u')) (va_A (wP cI pO mS mA dS dA cO iA oA kO fO aO rA u) sz)) 0 0 (va_A (wP cI pO mS mA dS dA cO iA oA kO fO aO rA u) sz) := by
  refine Met.ofW (cc := cX4_lastQuarter) (maxL := 3) (ret := (some .int)) (by decide) rfl ?_
  intro p e s m args below meth c s₁ B hml hv
  obtain ⟨rfl, hsz, hP, hK, hD0⟩ := hv
  have hx := B.exec
  have hb := B.bytes
  have hr := B.returns
  have hts := atoms_spec (ws := wsX4_lastQuarter) B.pre
  have hown : s.vm.findClass RX4 = some m.cls := findClass_of_methodNamed B.named
  have hlocks := B.notSynchronized
  subst hsz
  have hD := hD0.self (sz := s.heap.size)
  generalize hAe : va_A (wP cI pO mS mA dS dA cO iA oA kO fO aO rA u) s.heap.size = A at hD ⊢
  have hA : ∀ q : Nat, s.heap.size ≤ q → A q := fun q h => by rw [← hAe]; exact Or.inr h
  have hS : va_S A s.heap s.heap [] := va_S.rf
  have hP : va_P (dC, dI) vwCl (wP cI pO mS mA dS dA cO iA oA kO fO aO rA u) s.heap := hP
  clear hAe hD0
  have hl := lv_entry ([.ref pO, .int a1, .int a2]) (n := 3) (Nat.le_of_ble_eq_true rfl)
  rw [lg_entry_eq]
  generalize (lg_sl ([.ref pO, .int a1, .int a2]) ++ List.replicate (3 - (lg_sl ([.ref pO, .int a1, .int a2])).length) Slot.unset).toArray = ls at hl ⊢
  have hl : lv_has ls 3 [(0, .ref pO), (1, .int a1), (2, .int a2)] := hl
  refine jn_H hP hS (fun H locs hP hS => ?_)
  refine lv_iload_n hx hb dX4_lastQuarter_0 rfl (lv_at hl 2 rfl) ?_
  by_cases c1 : a2 = 0
  · refine tb_in (k := 0) (off := 43) (tgt := 44) hx hb dX4_lastQuarter_1 c1 (by decide) (by decide) (by decide) (by decide) ?_
    refine lv_aload_n hx hb dX4_lastQuarter_44 rfl (lv_at hl 0 rfl) ?_
    refine lv_iload_n hx hb dX4_lastQuarter_45 rfl (lv_at hl 1 rfl) ?_
    obtain ⟨hPc, hDc, hFc⟩ := xP_P hP hD hS hA
    have hKc := hK.sub (tys' := [(cI, .int)]) [0] rfl
    refine va_calli (va_runV (As := [.int a1]) (rest := []) ⟨hx, hb, hml, hown, hts⟩ (k_X4_returnIf l dC dI cI pO mS mA dS dA cO iA oA kO fO aO rA H.size u a1) (cwV 1 hts gX4_lastQuarter_X4_returnIf rfl rfl rfl (by decide +kernel) ⟨Nat.le_of_ble_eq_true rfl, Nat.le_of_ble_eq_true rfl⟩) ⟨fun a U g mk q => by obtain ⟨q0, q1, qP, qK, qD⟩ := q; exact ⟨q0, q1, qP, va_K.moved (u := U) (U := U.calling g mk a) (Vm.Alike.refl U.vm) qK, qD⟩, va_recv hKc hPc (ci := 4) (q0 := 0) rfl rfl, fun U hU hW => ⟨rfl, by rw [hU], by rw [hU]; exact hPc, va_K.moved hW.alike hKc, hDc.weaken (fun _ _ _ _ => trivial)⟩⟩ rfl rfl hl.1 rfl (lv_room (Nat.le_of_ble_eq_true rfl)) dX4_lastQuarter_46 ⟨Nat.le_of_ble_eq_true rfl, Nat.le_of_ble_eq_true rfl⟩) hS (fun q _ h => hFc q h) hFc (fun r9 u9 t H1 locs ht hvm hw hB hz1 hk1 hS => ?_)
    obtain ⟨rfl, rfl⟩ := hw
    obtain ⟨hP1, hK1, hD1⟩ := hB
    rw [ht] at hP1
    obtain ⟨hP, hD⟩ := jP_P hP hD hk1 hFc hP1 hD1
    clear hPc hDc hKc hFc hz1 hk1 hP1 hK1 hD1 ht hvm
    generalize H1 = H at hP hS ⊢
    exact W.iret (v := (f_X4_returnIf u a1).1) hx hb hr (fun t ht hW => ⟨⟨(f_X4_returnIf u a1).1, (f_X4_returnIf u a1).2, rfl, ⟨(by simp only [f_X4_lastQuarter, if_pos c1]), (by simp only [f_X4_lastQuarter, if_pos c1])⟩, by rw [ht]; exact hP, va_K.moved hW.alike hK, hD⟩, hS.F ht⟩) hS.2.2 dX4_lastQuarter_49
  · skip
    by_cases c2 : a2 = 1
    · refine tb_in (k := 1) (off := 49) (tgt := 50) hx hb dX4_lastQuarter_1 c2 (by decide) (by decide) (by decide) (by decide) ?_
      refine lv_aload_n hx hb dX4_lastQuarter_50 rfl (lv_at hl 0 rfl) ?_
      refine lv_iload_n hx hb dX4_lastQuarter_51 rfl (lv_at hl 1 rfl) ?_
      obtain ⟨hPc, hDc, hFc⟩ := xP_P hP hD hS hA
      have hKc := hK.sub (tys' := [(cI, .int)]) [0] rfl
      refine va_calli (va_runV (As := [.int a1]) (rest := []) ⟨hx, hb, hml, hown, hts⟩ (k_X4_popOrReturn l dC dI cI pO mS mA dS dA cO iA oA kO fO aO rA H.size u a1 h1) (cwV 1 hts gX4_lastQuarter_X4_popOrReturn rfl rfl rfl (by decide +kernel) ⟨Nat.le_of_ble_eq_true rfl, Nat.le_of_ble_eq_true rfl⟩) ⟨fun a U g mk q => by obtain ⟨q0, q1, qP, qK, qD⟩ := q; exact ⟨q0, q1, qP, va_K.moved (u := U) (U := U.calling g mk a) (Vm.Alike.refl U.vm) qK, qD⟩, va_recv hKc hPc (ci := 4) (q0 := 0) rfl rfl, fun U hU hW => ⟨rfl, by rw [hU], by rw [hU]; exact hPc, va_K.moved hW.alike hKc, hDc.weaken (fun _ _ _ _ => trivial)⟩⟩ rfl rfl hl.1 rfl (lv_room (Nat.le_of_ble_eq_true rfl)) dX4_lastQuarter_52 ⟨Nat.le_of_ble_eq_true rfl, Nat.le_of_ble_eq_true rfl⟩) hS (fun q _ h => hFc q h) hFc (fun r9 u9 t H1 locs ht hvm hw hB hz1 hk1 hS => ?_)
      obtain ⟨rfl, rfl⟩ := hw
      obtain ⟨hP1, hK1, hD1⟩ := hB
      rw [ht] at hP1
      obtain ⟨hP, hD⟩ := jP_P hP hD hk1 hFc hP1 hD1
      clear hPc hDc hKc hFc hz1 hk1 hP1 hK1 hD1 ht hvm
      generalize H1 = H at hP hS ⊢
      exact W.iret (v := (f_X4_popOrReturn u a1).1) hx hb hr (fun t ht hW => ⟨⟨(f_X4_popOrReturn u a1).1, (f_X4_popOrReturn u a1).2, rfl, ⟨(by simp only [f_X4_lastQuarter, if_neg c1, if_pos c2]), (by simp only [f_X4_lastQuarter, if_neg c1, if_pos c2])⟩, by rw [ht]; exact hP, va_K.moved hW.alike hK, hD⟩, hS.F ht⟩) hS.2.2 dX4_lastQuarter_55
    · skip
      by_cases c3 : a2 = 2
      · refine tb_in (k := 2) (off := 55) (tgt := 56) hx hb dX4_lastQuarter_1 c3 (by decide) (by decide) (by decide) (by decide) ?_
        refine lv_aload_n hx hb dX4_lastQuarter_56 rfl (lv_at hl 0 rfl) ?_
        refine lv_aload_n hx hb dX4_lastQuarter_57 rfl (lv_at hl 0 rfl) ?_
        refine va_get (D := (dC, dI)) (ci := 4) (v := .ref fO) (C := RX4) (T := TX4) (N := 13) hx hb hts iX4_lastQuarter_X4 hown hK hP 0 rfl rfl 3 (by decide) (hts _ qX4_lastQuarter_3) (fun _ h9 => h9) rfl dX4_lastQuarter_58 ?_
        refine lv_iload_n hx hb dX4_lastQuarter_61 rfl (lv_at hl 1 rfl) ?_
        obtain ⟨hPc, hDc, hFc⟩ := xP_F hP hD hS hA
        have hKc := hK.sub (tys' := [(cI, .int)]) [0] rfl
        refine va_calli (va_runV (As := [.int a1]) (rest := [.ref pO]) ⟨hx, hb, hml, hown, hts⟩ (k_X3_holds l dC dI cI fO H.size (gPW_F u) a1) (cwV 1 hts gX4_lastQuarter_X3_holds rfl rfl rfl (by decide +kernel) ⟨Nat.le_of_ble_eq_true rfl, Nat.le_of_ble_eq_true rfl⟩) ⟨fun a U g mk q => by obtain ⟨q0, q1, qP, qK, qD⟩ := q; exact ⟨q0, q1, qP, va_K.moved (u := U) (U := U.calling g mk a) (Vm.Alike.refl U.vm) qK, qD⟩, va_recv hKc hPc (ci := 3) (q0 := 0) rfl rfl, fun U hU hW => ⟨rfl, by rw [hU], by rw [hU]; exact hPc, va_K.moved hW.alike hKc, hDc.weaken (fun _ _ _ _ => trivial)⟩⟩ rfl rfl hl.1 rfl (lv_room (Nat.le_of_ble_eq_true rfl)) dX4_lastQuarter_62 ⟨Nat.le_of_ble_eq_true rfl, Nat.le_of_ble_eq_true rfl⟩) hS (fun q _ h => hFc q h) hFc (fun r9 u9 t H1 locs ht hvm hw hB hz1 hk1 hS => ?_)
        obtain ⟨hw1, hw2⟩ := hw
        have hw2 := hw2.symm
        subst hw1 hw2
        obtain ⟨hP1, hK1, hD1⟩ := hB
        rw [ht] at hP1
        obtain ⟨hP, hD⟩ := jP_F0 hP hD hk1 hFc hP1 hD1
        clear hPc hDc hKc hFc hz1 hk1 hP1 hK1 hD1 ht hvm
        generalize H1 = H at hP hS ⊢
        obtain ⟨hPc, hDc, hFc⟩ := xP_P hP hD hS hA
        have hKc := hK.sub (tys' := [(cI, .int)]) [0] rfl
        refine va_calli (va_runV (As := [.int (bI (f_X3_holds (gPW_F u) a1))]) (rest := []) ⟨hx, hb, hml, hown, hts⟩ (k_X4_jumpIf l dC dI cI pO mS mA dS dA cO iA oA kO fO aO rA H.size u (f_X3_holds (gPW_F u) a1)) (cwV 1 hts gX4_lastQuarter_X4_jumpIf rfl rfl rfl (by decide +kernel) ⟨Nat.le_of_ble_eq_true rfl, Nat.le_of_ble_eq_true rfl⟩) ⟨fun a U g mk q => by obtain ⟨q0, q1, qP, qK, qD⟩ := q; exact ⟨q0, q1, qP, va_K.moved (u := U) (U := U.calling g mk a) (Vm.Alike.refl U.vm) qK, qD⟩, va_recv hKc hPc (ci := 4) (q0 := 0) rfl rfl, fun U hU hW => ⟨rfl, by rw [hU], by rw [hU]; exact hPc, va_K.moved hW.alike hKc, hDc.weaken (fun _ _ _ _ => trivial)⟩⟩ rfl rfl hl.1 rfl (lv_room (Nat.le_of_ble_eq_true rfl)) dX4_lastQuarter_65 ⟨Nat.le_of_ble_eq_true rfl, Nat.le_of_ble_eq_true rfl⟩) hS (fun q _ h => hFc q h) hFc (fun r9 u9 t H1 locs ht hvm hw hB hz1 hk1 hS => ?_)
        obtain ⟨rfl, rfl⟩ := hw
        obtain ⟨hP1, hK1, hD1⟩ := hB
        rw [ht] at hP1
        obtain ⟨hP, hD⟩ := jP_P hP hD hk1 hFc hP1 hD1
        clear hPc hDc hKc hFc hz1 hk1 hP1 hK1 hD1 ht hvm
        generalize H1 = H at hP hS ⊢
        exact W.iret (v := (f_X4_jumpIf u (f_X3_holds (gPW_F u) a1)).1) hx hb hr (fun t ht hW => ⟨⟨(f_X4_jumpIf u (f_X3_holds (gPW_F u) a1)).1, (f_X4_jumpIf u (f_X3_holds (gPW_F u) a1)).2, rfl, ⟨(by simp only [f_X4_lastQuarter, if_neg c1, if_neg c2, if_pos c3]), (by simp only [f_X4_lastQuarter, if_neg c1, if_neg c2, if_pos c3])⟩, by rw [ht]; exact hP, va_K.moved hW.alike hK, hD⟩, hS.F ht⟩) hS.2.2 dX4_lastQuarter_68
      · skip
        by_cases c4 : a2 = 3
        · refine tb_in (k := 3) (off := 68) (tgt := 69) hx hb dX4_lastQuarter_1 c4 (by decide) (by decide) (by decide) (by decide) ?_
          refine lv_iload_n hx hb dX4_lastQuarter_69 rfl (lv_at hl 1 rfl) ?_
          refine lv_iconst (v := 2) hx hb dX4_lastQuarter_70 (by decide) ?_
          refine lv_icmp_ge (tgt := 82) hx hb dX4_lastQuarter_71 (by decide) (fun c5 => ?_) (fun c5 => ?_)
          · skip
            refine lv_aload_n hx hb dX4_lastQuarter_82 rfl (lv_at hl 0 rfl) ?_
            refine lv_iload_n hx hb dX4_lastQuarter_83 rfl (lv_at hl 1 rfl) ?_
            obtain ⟨hPc, hDc, hFc⟩ := xP_P hP hD hS hA
            have hKc := hK.sub (tys' := [(cI, .int)]) [0] rfl
            refine va_calli (va_runV (As := [.int a1]) (rest := []) ⟨hx, hb, hml, hown, hts⟩ (k_X4_portOrExchange l dC dI cI pO mS mA dS dA cO iA oA kO fO aO rA H.size u a1 hC) (cwV 1 hts gX4_lastQuarter_X4_portOrExchange rfl rfl rfl (by decide +kernel) ⟨Nat.le_of_ble_eq_true rfl, Nat.le_of_ble_eq_true rfl⟩) ⟨fun a U g mk q => by obtain ⟨q0, q1, qP, qK, qD⟩ := q; exact ⟨q0, q1, qP, va_K.moved (u := U) (U := U.calling g mk a) (Vm.Alike.refl U.vm) qK, qD⟩, va_recv hKc hPc (ci := 4) (q0 := 0) rfl rfl, fun U hU hW => ⟨rfl, by rw [hU], by rw [hU]; exact hPc, va_K.moved hW.alike hKc, hDc.weaken (fun _ _ _ _ => trivial)⟩⟩ rfl rfl hl.1 rfl (lv_room (Nat.le_of_ble_eq_true rfl)) dX4_lastQuarter_84 ⟨Nat.le_of_ble_eq_true rfl, Nat.le_of_ble_eq_true rfl⟩) hS (fun q _ h => hFc q h) hFc (fun r9 u9 t H1 locs ht hvm hw hB hz1 hk1 hS => ?_)
            obtain ⟨rfl, rfl⟩ := hw
            obtain ⟨hP1, hK1, hD1⟩ := hB
            rw [ht] at hP1
            obtain ⟨hP, hD⟩ := jP_P hP hD hk1 hFc hP1 hD1
            clear hPc hDc hKc hFc hz1 hk1 hP1 hK1 hD1 ht hvm
            generalize H1 = H at hP hS ⊢
            exact W.iret (v := (f_X4_portOrExchange u a1).1) hx hb hr (fun t ht hW => ⟨⟨(f_X4_portOrExchange u a1).1, (f_X4_portOrExchange u a1).2, rfl, ⟨(by simp only [f_X4_lastQuarter, if_neg c1, if_neg c2, if_neg c3, if_pos c4, if_pos c5]), (by simp only [f_X4_lastQuarter, if_neg c1, if_neg c2, if_neg c3, if_pos c4, if_pos c5])⟩, by rw [ht]; exact hP, va_K.moved hW.alike hK, hD⟩, hS.F ht⟩) hS.2.2 dX4_lastQuarter_87
          · skip
            refine lv_aload_n hx hb dX4_lastQuarter_74 rfl (lv_at hl 0 rfl) ?_
            refine lv_iconst (v := 1) hx hb dX4_lastQuarter_75 (by decide) ?_
            obtain ⟨hPc, hDc, hFc⟩ := xP_P hP hD hS hA
            have hKc := hK.sub (tys' := [(cI, .int)]) [0] rfl
            refine va_calli (va_runV (As := [.int (bI true)]) (rest := []) ⟨hx, hb, hml, hown, hts⟩ (k_X4_jumpIf l dC dI cI pO mS mA dS dA cO iA oA kO fO aO rA H.size u true) (cwV 1 hts gX4_lastQuarter_X4_jumpIf rfl rfl rfl (by decide +kernel) ⟨Nat.le_of_ble_eq_true rfl, Nat.le_of_ble_eq_true rfl⟩) ⟨fun a U g mk q => by obtain ⟨q0, q1, qP, qK, qD⟩ := q; exact ⟨q0, q1, qP, va_K.moved (u := U) (U := U.calling g mk a) (Vm.Alike.refl U.vm) qK, qD⟩, va_recv hKc hPc (ci := 4) (q0 := 0) rfl rfl, fun U hU hW => ⟨rfl, by rw [hU], by rw [hU]; exact hPc, va_K.moved hW.alike hKc, hDc.weaken (fun _ _ _ _ => trivial)⟩⟩ rfl rfl hl.1 rfl (lv_room (Nat.le_of_ble_eq_true rfl)) dX4_lastQuarter_76 ⟨Nat.le_of_ble_eq_true rfl, Nat.le_of_ble_eq_true rfl⟩) hS (fun q _ h => hFc q h) hFc (fun r9 u9 t H1 locs ht hvm hw hB hz1 hk1 hS => ?_)
            obtain ⟨rfl, rfl⟩ := hw
            obtain ⟨hP1, hK1, hD1⟩ := hB
            rw [ht] at hP1
            obtain ⟨hP, hD⟩ := jP_P hP hD hk1 hFc hP1 hD1
            clear hPc hDc hKc hFc hz1 hk1 hP1 hK1 hD1 ht hvm
            generalize H1 = H at hP hS ⊢
            refine lv_goto (tgt := 87) hx hb dX4_lastQuarter_79 (by decide) ?_
            exact W.iret (v := (f_X4_jumpIf u true).1) hx hb hr (fun t ht hW => ⟨⟨(f_X4_jumpIf u true).1, (f_X4_jumpIf u true).2, rfl, ⟨(by simp only [f_X4_lastQuarter, if_neg c1, if_neg c2, if_neg c3, if_pos c4, if_neg c5]), (by simp only [f_X4_lastQuarter, if_neg c1, if_neg c2, if_neg c3, if_pos c4, if_neg c5])⟩, by rw [ht]; exact hP, va_K.moved hW.alike hK, hD⟩, hS.F ht⟩) hS.2.2 dX4_lastQuarter_87
        · skip
          by_cases c6 : a2 = 4
          · refine tb_in (k := 4) (off := 87) (tgt := 88) hx hb dX4_lastQuarter_1 c6 (by decide) (by decide) (by decide) (by decide) ?_
            refine lv_aload_n hx hb dX4_lastQuarter_88 rfl (lv_at hl 0 rfl) ?_
            refine lv_aload_n hx hb dX4_lastQuarter_89 rfl (lv_at hl 0 rfl) ?_
            refine va_get (D := (dC, dI)) (ci := 4) (v := .ref fO) (C := RX4) (T := TX4) (N := 13) hx hb hts iX4_lastQuarter_X4 hown hK hP 0 rfl rfl 3 (by decide) (hts _ qX4_lastQuarter_3) (fun _ h9 => h9) rfl dX4_lastQuarter_90 ?_
            refine lv_iload_n hx hb dX4_lastQuarter_93 rfl (lv_at hl 1 rfl) ?_
            obtain ⟨hPc, hDc, hFc⟩ := xP_F hP hD hS hA
            have hKc := hK.sub (tys' := [(cI, .int)]) [0] rfl
            refine va_calli (va_runV (As := [.int a1]) (rest := [.ref pO]) ⟨hx, hb, hml, hown, hts⟩ (k_X3_holds l dC dI cI fO H.size (gPW_F u) a1) (cwV 1 hts gX4_lastQuarter_X3_holds rfl rfl rfl (by decide +kernel) ⟨Nat.le_of_ble_eq_true rfl, Nat.le_of_ble_eq_true rfl⟩) ⟨fun a U g mk q => by obtain ⟨q0, q1, qP, qK, qD⟩ := q; exact ⟨q0, q1, qP, va_K.moved (u := U) (U := U.calling g mk a) (Vm.Alike.refl U.vm) qK, qD⟩, va_recv hKc hPc (ci := 3) (q0 := 0) rfl rfl, fun U hU hW => ⟨rfl, by rw [hU], by rw [hU]; exact hPc, va_K.moved hW.alike hKc, hDc.weaken (fun _ _ _ _ => trivial)⟩⟩ rfl rfl hl.1 rfl (lv_room (Nat.le_of_ble_eq_true rfl)) dX4_lastQuarter_94 ⟨Nat.le_of_ble_eq_true rfl, Nat.le_of_ble_eq_true rfl⟩) hS (fun q _ h => hFc q h) hFc (fun r9 u9 t H1 locs ht hvm hw hB hz1 hk1 hS => ?_)
            obtain ⟨hw1, hw2⟩ := hw
            have hw2 := hw2.symm
            subst hw1 hw2
            obtain ⟨hP1, hK1, hD1⟩ := hB
            rw [ht] at hP1
            obtain ⟨hP, hD⟩ := jP_F0 hP hD hk1 hFc hP1 hD1
            clear hPc hDc hKc hFc hz1 hk1 hP1 hK1 hD1 ht hvm
            generalize H1 = H at hP hS ⊢
            obtain ⟨hPc, hDc, hFc⟩ := xP_P hP hD hS hA
            have hKc := hK.sub (tys' := [(cI, .int)]) [0] rfl
            refine va_calli (va_runV (As := [.int (bI (f_X3_holds (gPW_F u) a1))]) (rest := []) ⟨hx, hb, hml, hown, hts⟩ (k_X4_callIf l dC dI cI pO mS mA dS dA cO iA oA kO fO aO rA H.size u (f_X3_holds (gPW_F u) a1)) (cwV 1 hts gX4_lastQuarter_X4_callIf rfl rfl rfl (by decide +kernel) ⟨Nat.le_of_ble_eq_true rfl, Nat.le_of_ble_eq_true rfl⟩) ⟨fun a U g mk q => by obtain ⟨q0, q1, qP, qK, qD⟩ := q; exact ⟨q0, q1, qP, va_K.moved (u := U) (U := U.calling g mk a) (Vm.Alike.refl U.vm) qK, qD⟩, va_recv hKc hPc (ci := 4) (q0 := 0) rfl rfl, fun U hU hW => ⟨rfl, by rw [hU], by rw [hU]; exact hPc, va_K.moved hW.alike hKc, hDc.weaken (fun _ _ _ _ => trivial)⟩⟩ rfl rfl hl.1 rfl (lv_room (Nat.le_of_ble_eq_true rfl)) dX4_lastQuarter_97 ⟨Nat.le_of_ble_eq_true rfl, Nat.le_of_ble_eq_true rfl⟩) hS (fun q _ h => hFc q h) hFc (fun r9 u9 t H1 locs ht hvm hw hB hz1 hk1 hS => ?_)
            obtain ⟨rfl, rfl⟩ := hw
            obtain ⟨hP1, hK1, hD1⟩ := hB
            rw [ht] at hP1
            obtain ⟨hP, hD⟩ := jP_P hP hD hk1 hFc hP1 hD1
            clear hPc hDc hKc hFc hz1 hk1 hP1 hK1 hD1 ht hvm
            generalize H1 = H at hP hS ⊢
            exact W.iret (v := (f_X4_callIf u (f_X3_holds (gPW_F u) a1)).1) hx hb hr (fun t ht hW => ⟨⟨(f_X4_callIf u (f_X3_holds (gPW_F u) a1)).1, (f_X4_callIf u (f_X3_holds (gPW_F u) a1)).2, rfl, ⟨(by simp only [f_X4_lastQuarter, if_neg c1, if_neg c2, if_neg c3, if_neg c4, if_pos c6]), (by simp only [f_X4_lastQuarter, if_neg c1, if_neg c2, if_neg c3, if_neg c4, if_pos c6])⟩, by rw [ht]; exact hP, va_K.moved hW.alike hK, hD⟩, hS.F ht⟩) hS.2.2 dX4_lastQuarter_100
          · skip
            by_cases c7 : a2 = 5
            · refine tb_in (k := 5) (off := 100) (tgt := 101) hx hb dX4_lastQuarter_1 c7 (by decide) (by decide) (by decide) (by decide) ?_
              refine lv_iload_n hx hb dX4_lastQuarter_101 rfl (lv_at hl 1 rfl) ?_
              refine lv_iconst (v := 1) hx hb dX4_lastQuarter_102 (by decide) ?_
              refine lv_iand hx hb dX4_lastQuarter_103 ?_
              refine lv_if_ne (tgt := 115) hx hb dX4_lastQuarter_104 (by decide) (fun c8 => ?_) (fun c8 => ?_)
              · skip
                refine lv_aload_n hx hb dX4_lastQuarter_115 rfl (lv_at hl 0 rfl) ?_
                refine lv_iconst (v := 1) hx hb dX4_lastQuarter_116 (by decide) ?_
                obtain ⟨hPc, hDc, hFc⟩ := xP_P hP hD hS hA
                have hKc := hK.sub (tys' := [(cI, .int)]) [0] rfl
                refine va_calli (va_runV (As := [.int (bI true)]) (rest := []) ⟨hx, hb, hml, hown, hts⟩ (k_X4_callIf l dC dI cI pO mS mA dS dA cO iA oA kO fO aO rA H.size u true) (cwV 1 hts gX4_lastQuarter_X4_callIf rfl rfl rfl (by decide +kernel) ⟨Nat.le_of_ble_eq_true rfl, Nat.le_of_ble_eq_true rfl⟩) ⟨fun a U g mk q => by obtain ⟨q0, q1, qP, qK, qD⟩ := q; exact ⟨q0, q1, qP, va_K.moved (u := U) (U := U.calling g mk a) (Vm.Alike.refl U.vm) qK, qD⟩, va_recv hKc hPc (ci := 4) (q0 := 0) rfl rfl, fun U hU hW => ⟨rfl, by rw [hU], by rw [hU]; exact hPc, va_K.moved hW.alike hKc, hDc.weaken (fun _ _ _ _ => trivial)⟩⟩ rfl rfl hl.1 rfl (lv_room (Nat.le_of_ble_eq_true rfl)) dX4_lastQuarter_117 ⟨Nat.le_of_ble_eq_true rfl, Nat.le_of_ble_eq_true rfl⟩) hS (fun q _ h => hFc q h) hFc (fun r9 u9 t H1 locs ht hvm hw hB hz1 hk1 hS => ?_)
                obtain ⟨rfl, rfl⟩ := hw
                obtain ⟨hP1, hK1, hD1⟩ := hB
                rw [ht] at hP1
                obtain ⟨hP, hD⟩ := jP_P hP hD hk1 hFc hP1 hD1
                clear hPc hDc hKc hFc hz1 hk1 hP1 hK1 hD1 ht hvm
                generalize H1 = H at hP hS ⊢
                exact W.iret (v := (f_X4_callIf u true).1) hx hb hr (fun t ht hW => ⟨⟨(f_X4_callIf u true).1, (f_X4_callIf u true).2, rfl, ⟨(by simp only [f_X4_lastQuarter, if_neg c1, if_neg c2, if_neg c3, if_neg c4, if_neg c6, if_pos c7, if_neg c8]), (by simp only [f_X4_lastQuarter, if_neg c1, if_neg c2, if_neg c3, if_neg c4, if_neg c6, if_pos c7, if_neg c8])⟩, by rw [ht]; exact hP, va_K.moved hW.alike hK, hD⟩, hS.F ht⟩) hS.2.2 dX4_lastQuarter_120
              · skip
                refine lv_aload_n hx hb dX4_lastQuarter_107 rfl (lv_at hl 0 rfl) ?_
                refine lv_iload_n hx hb dX4_lastQuarter_108 rfl (lv_at hl 1 rfl) ?_
                obtain ⟨hPc, hDc, hFc⟩ := xP_P hP hD hS hA
                have hKc := hK.sub (tys' := [(cI, .int)]) [0] rfl
                refine va_calli (va_runV (As := [.int a1]) (rest := []) ⟨hx, hb, hml, hown, hts⟩ (k_X4_pushPair l dC dI cI pO mS mA dS dA cO iA oA kO fO aO rA H.size u a1 h1) (cwV 1 hts gX4_lastQuarter_X4_pushPair rfl rfl rfl (by decide +kernel) ⟨Nat.le_of_ble_eq_true rfl, Nat.le_of_ble_eq_true rfl⟩) ⟨fun a U g mk q => by obtain ⟨q0, q1, qP, qK, qD⟩ := q; exact ⟨q0, q1, qP, va_K.moved (u := U) (U := U.calling g mk a) (Vm.Alike.refl U.vm) qK, qD⟩, va_recv hKc hPc (ci := 4) (q0 := 0) rfl rfl, fun U hU hW => ⟨rfl, by rw [hU], by rw [hU]; exact hPc, va_K.moved hW.alike hKc, hDc.weaken (fun _ _ _ _ => trivial)⟩⟩ rfl rfl hl.1 rfl (lv_room (Nat.le_of_ble_eq_true rfl)) dX4_lastQuarter_109 ⟨Nat.le_of_ble_eq_true rfl, Nat.le_of_ble_eq_true rfl⟩) hS (fun q _ h => hFc q h) hFc (fun r9 u9 t H1 locs ht hvm hw hB hz1 hk1 hS => ?_)
                obtain ⟨rfl, rfl⟩ := hw
                obtain ⟨hP1, hK1, hD1⟩ := hB
                rw [ht] at hP1
                obtain ⟨hP, hD⟩ := jP_P hP hD hk1 hFc hP1 hD1
                clear hPc hDc hKc hFc hz1 hk1 hP1 hK1 hD1 ht hvm
                generalize H1 = H at hP hS ⊢
                refine lv_goto (tgt := 120) hx hb dX4_lastQuarter_112 (by decide) ?_
                exact W.iret (v := (f_X4_pushPair u a1).1) hx hb hr (fun t ht hW => ⟨⟨(f_X4_pushPair u a1).1, (f_X4_pushPair u a1).2, rfl, ⟨(by simp only [f_X4_lastQuarter, if_neg c1, if_neg c2, if_neg c3, if_neg c4, if_neg c6, if_pos c7, if_pos c8]), (by simp only [f_X4_lastQuarter, if_neg c1, if_neg c2, if_neg c3, if_neg c4, if_neg c6, if_pos c7, if_pos c8])⟩, by rw [ht]; exact hP, va_K.moved hW.alike hK, hD⟩, hS.F ht⟩) hS.2.2 dX4_lastQuarter_120
            · skip
              by_cases c9 : a2 = 6
              · refine tb_in (k := 6) (off := 120) (tgt := 121) hx hb dX4_lastQuarter_1 c9 (by decide) (by decide) (by decide) (by decide) ?_
                refine lv_aload_n hx hb dX4_lastQuarter_121 rfl (lv_at hl 0 rfl) ?_
                refine va_get (D := (dC, dI)) (ci := 4) (v := .ref rA) (C := RX4) (T := TX4) (N := 13) hx hb hts iX4_lastQuarter_X4 hown hK hP 0 rfl rfl 5 (by decide) (hts _ qX4_lastQuarter_1) (fun _ h9 => h9) rfl dX4_lastQuarter_122 ?_
                refine lv_bipush (v := 7) hx hb dX4_lastQuarter_125 (by decide) ?_
                refine lv_aload_n hx hb dX4_lastQuarter_127 rfl (lv_at hl 0 rfl) ?_
                refine va_get (D := (dC, dI)) (ci := 4) (v := .ref aO) (C := RX4) (T := TX4) (N := 13) hx hb hts iX4_lastQuarter_X4 hown hK hP 0 rfl rfl 4 (by decide) (hts _ qX4_lastQuarter_2) (fun _ h9 => h9) rfl dX4_lastQuarter_128 ?_
                refine lv_iload_n hx hb dX4_lastQuarter_131 rfl (lv_at hl 1 rfl) ?_
                refine lv_aload_n hx hb dX4_lastQuarter_132 rfl (lv_at hl 0 rfl) ?_
                refine va_get (D := (dC, dI)) (ci := 4) (v := .ref rA) (C := RX4) (T := TX4) (N := 13) hx hb hts iX4_lastQuarter_X4 hown hK hP 0 rfl rfl 5 (by decide) (hts _ qX4_lastQuarter_1) (fun _ h9 => h9) rfl dX4_lastQuarter_133 ?_
                refine lv_bipush (v := 7) hx hb dX4_lastQuarter_136 (by decide) ?_
                refine va_iald (f := (gPW_P_r u)) hx hb hK hP 11 0 rfl rfl (ix_lit (by decide)) dX4_lastQuarter_138 ?_
                refine lv_aload_n hx hb dX4_lastQuarter_139 rfl (lv_at hl 0 rfl) ?_
                obtain ⟨hPc, hDc, hFc⟩ := xP_P hP hD hS hA
                have hKc := hK.sub (tys' := [(cI, .int)]) [0] rfl
                refine va_calli (va_runV (As := []) (rest := [.int ((gPW_P_r u) (7 : Int32).toNatClampNeg), .int a1, .ref aO, .int 7, .ref rA]) ⟨hx, hb, hml, hown, hts⟩ (k_X4_nextByte l dC dI cI pO mS mA dS dA cO iA oA kO fO aO rA H.size u) (cwV 0 hts gX4_lastQuarter_X4_nextByte rfl rfl rfl (by decide +kernel) ⟨Nat.le_of_ble_eq_true rfl, Nat.le_of_ble_eq_true rfl⟩) ⟨fun a U g mk q => by obtain ⟨q0, q1, qP, qK, qD⟩ := q; exact ⟨q0, q1, qP, va_K.moved (u := U) (U := U.calling g mk a) (Vm.Alike.refl U.vm) qK, qD⟩, va_recv hKc hPc (ci := 4) (q0 := 0) rfl rfl, fun U hU hW => ⟨rfl, by rw [hU], by rw [hU]; exact hPc, va_K.moved hW.alike hKc, hDc.weaken (fun _ _ _ _ => trivial)⟩⟩ rfl rfl hl.1 rfl (lv_room (Nat.le_of_ble_eq_true rfl)) dX4_lastQuarter_140 ⟨Nat.le_of_ble_eq_true rfl, Nat.le_of_ble_eq_true rfl⟩) hS (fun q _ h => hFc q h) hFc (fun r9 u9 t H1 locs ht hvm hw hB hz1 hk1 hS => ?_)
                obtain ⟨rfl, rfl⟩ := hw
                obtain ⟨hP1, hK1, hD1⟩ := hB
                rw [ht] at hP1
                obtain ⟨hP, hD⟩ := jP_P hP hD hk1 hFc hP1 hD1
                clear hPc hDc hKc hFc hz1 hk1 hP1 hK1 hD1 ht hvm
                generalize H1 = H at hP hS ⊢
                obtain ⟨hPc, hDc, hFc⟩ := xP_A hP hD hS hA
                have hKc := hK.sub (tys' := [(cI, .int)]) [0] rfl
                refine va_calli (va_runV (As := [.int a1, .int ((gPW_P_r u) (7 : Int32).toNatClampNeg), .int (f_X4_nextByte u).1]) (rest := [.int 7, .ref rA]) ⟨hx, hb, hml, hown, hts⟩ (k_X0_combine l dC dI cI aO fO H.size (gPW_F (f_X4_nextByte u).2) a1 ((gPW_P_r u) (7 : Int32).toNatClampNeg) (f_X4_nextByte u).1) (cwV 3 hts gX4_lastQuarter_X0_combine rfl rfl rfl (by decide +kernel) ⟨Nat.le_of_ble_eq_true rfl, Nat.le_of_ble_eq_true rfl⟩) ⟨fun a U g mk q => by obtain ⟨q0, q1, qP, qK, qD⟩ := q; exact ⟨q0, q1, qP, va_K.moved (u := U) (U := U.calling g mk a) (Vm.Alike.refl U.vm) qK, qD⟩, va_recv hKc hPc (ci := 0) (q0 := 0) rfl rfl, fun U hU hW => ⟨rfl, by rw [hU], by rw [hU]; exact hPc, va_K.moved hW.alike hKc, hDc.weaken (fun _ _ _ _ => trivial)⟩⟩ rfl rfl hl.1 rfl (lv_room (Nat.le_of_ble_eq_true rfl)) dX4_lastQuarter_143 ⟨Nat.le_of_ble_eq_true rfl, Nat.le_of_ble_eq_true rfl⟩) hS (fun q _ h => hFc q h) hFc (fun r9 u9 t H1 locs ht hvm hw hB hz1 hk1 hS => ?_)
                obtain ⟨rfl, rfl⟩ := hw
                obtain ⟨hP1, hK1, hD1⟩ := hB
                rw [ht] at hP1
                obtain ⟨hP, hD⟩ := jP_A hP hD hk1 hFc hP1 hD1
                clear hPc hDc hKc hFc hz1 hk1 hP1 hK1 hD1 ht hvm
                generalize H1 = H at hP hS ⊢
                refine va_iast (f := (gPW_P_r (sPW_F (f_X4_nextByte u).2 (f_X0_combine (gPW_F (f_X4_nextByte u).2) a1 ((gPW_P_r u) (7 : Int32).toNatClampNeg) (f_X4_nextByte u).1).2))) hx hb hK hP hD hS 11 0 rfl rfl (ix_lit (by decide)) dX4_lastQuarter_146 (fun H locs hP hD hS => ?_)
                obtain ⟨hP, hD⟩ := aP_rA hP hD
                refine lv_bipush (v := 7) hx hb dX4_lastQuarter_147 (by decide) ?_
                exact W.iret (v := 7) hx hb hr (fun t ht hW => ⟨⟨7, (sPW_P_r (sPW_F (f_X4_nextByte u).2 (f_X0_combine (gPW_F (f_X4_nextByte u).2) a1 ((gPW_P_r u) (7 : Int32).toNatClampNeg) (f_X4_nextByte u).1).2) (upd (gPW_P_r (sPW_F (f_X4_nextByte u).2 (f_X0_combine (gPW_F (f_X4_nextByte u).2) a1 ((gPW_P_r u) (7 : Int32).toNatClampNeg) (f_X4_nextByte u).1).2)) (7 : Int32).toNatClampNeg (f_X0_combine (gPW_F (f_X4_nextByte u).2) a1 ((gPW_P_r u) (7 : Int32).toNatClampNeg) (f_X4_nextByte u).1).1)), rfl, ⟨(by simp only [f_X4_lastQuarter, if_neg c1, if_neg c2, if_neg c3, if_neg c4, if_neg c6, if_neg c7, if_pos c9]), (by simp only [f_X4_lastQuarter, if_neg c1, if_neg c2, if_neg c3, if_neg c4, if_neg c6, if_neg c7, if_pos c9])⟩, by rw [ht]; exact hP, va_K.moved hW.alike hK, hD⟩, hS.F ht⟩) hS.2.2 dX4_lastQuarter_149
              · skip
                refine lv_tableOut (tgt := 150) hx hb dX4_lastQuarter_1 (by have r0 := lv_neT c1 (a := 0) (by decide); have r1 := lv_neT c2 (a := 1) (by decide); have r2 := lv_neT c3 (a := 2) (by decide); have r3 := lv_neT c4 (a := 3) (by decide); have r4 := lv_neT c6 (a := 4) (by decide); have r5 := lv_neT c7 (a := 5) (by decide); have r6 := lv_neT c9 (a := 6) (by decide); omega) (by decide) ?_
                refine lv_aload_n hx hb dX4_lastQuarter_150 rfl (lv_at hl 0 rfl) ?_
                refine lv_aload_n hx hb dX4_lastQuarter_151 rfl (lv_at hl 0 rfl) ?_
                refine va_get (D := (dC, dI)) (ci := 4) (v := .int (gPW_P_pc u)) (C := RX4) (T := TX4) (N := 13) hx hb hts iX4_lastQuarter_X4 hown hK hP 0 rfl rfl 6 (by decide) (hts _ qX4_lastQuarter_0) (fun _ h9 => h9) rfl dX4_lastQuarter_152 ?_
                obtain ⟨hPc, hDc, hFc⟩ := xP_P hP hD hS hA
                have hKc := hK.sub (tys' := [(cI, .int)]) [0] rfl
                refine va_callv (va_runV (As := [.int (gPW_P_pc u)]) (rest := []) ⟨hx, hb, hml, hown, hts⟩ (k_X4_push l dC dI cI pO mS mA dS dA cO iA oA kO fO aO rA H.size u (gPW_P_pc u)) (cwV 1 hts gX4_lastQuarter_X4_push rfl rfl rfl (by decide +kernel) ⟨Nat.le_of_ble_eq_true rfl, Nat.le_of_ble_eq_true rfl⟩) ⟨fun a U g mk q => by obtain ⟨q0, q1, qP, qK, qD⟩ := q; exact ⟨q0, q1, qP, va_K.moved (u := U) (U := U.calling g mk a) (Vm.Alike.refl U.vm) qK, qD⟩, va_recv hKc hPc (ci := 4) (q0 := 0) rfl rfl, fun U hU hW => ⟨rfl, by rw [hU], by rw [hU]; exact hPc, va_K.moved hW.alike hKc, hDc.weaken (fun _ _ _ _ => trivial)⟩⟩ rfl rfl hl.1 rfl (lv_room (Nat.le_of_ble_eq_true rfl)) dX4_lastQuarter_155 ⟨Nat.le_of_ble_eq_true rfl, Nat.le_of_ble_eq_true rfl⟩) hS (fun q _ h => hFc q h) hFc (fun u9 t H1 locs ht hvm hw hB hz1 hk1 hS => ?_)
                subst hw
                obtain ⟨hP1, hK1, hD1⟩ := hB
                rw [ht] at hP1
                obtain ⟨hP, hD⟩ := jP_P hP hD hk1 hFc hP1 hD1
                clear hPc hDc hKc hFc hz1 hk1 hP1 hK1 hD1 ht hvm
                generalize H1 = H at hP hS ⊢
                refine lv_aload_n hx hb dX4_lastQuarter_158 rfl (lv_at hl 0 rfl) ?_
                refine lv_bipush (v := 8) hx hb dX4_lastQuarter_159 (by decide) ?_
                refine lv_iload_n hx hb dX4_lastQuarter_161 rfl (lv_at hl 1 rfl) ?_
                refine lv_imul hx hb dX4_lastQuarter_162 ?_
                refine va_put (D := (dC, dI)) (ci := 4) (v := .int ((8 : Int32) * a1)) (ty := .int) (C := RX4) (T := TX4) (N := 13) hx hb hts iX4_lastQuarter_X4 tyX4 tyX4_ok nmX4 hown hK hP hD hS 0 rfl rfl 6 (by decide) (hts _ qX4_lastQuarter_0) (fun _ h9 => h9) rfl (by decide +kernel) rfl rfl (Nat.le_of_ble_eq_true rfl) dX4_lastQuarter_163 (fun H locs hP hD hS => ?_)
                obtain ⟨hP, hD⟩ := pP_P_pc hP hD
                refine lv_bipush (v := 11) hx hb dX4_lastQuarter_166 (by decide) ?_
                exact W.iret (v := 11) hx hb hr (fun t ht hW => ⟨⟨11, (sPW_P_pc (f_X4_push u (gPW_P_pc u)) ((8 : Int32) * a1)), rfl, ⟨(by simp only [f_X4_lastQuarter, if_neg c1, if_neg c2, if_neg c3, if_neg c4, if_neg c6, if_neg c7, if_neg c9]), (by simp only [f_X4_lastQuarter, if_neg c1, if_neg c2, if_neg c3, if_neg c4, if_neg c6, if_neg c7, if_neg c9])⟩, by rw [ht]; exact hP, va_K.moved hW.alike hK, hD⟩, hS.F ht⟩) hS.2.2 dX4_lastQuarter_168

def f_X4_instruction (u : PW) : Int32 × PW := 
  if ((f_X4_nextByte (sPW_P_jon u false)).1 >>> ((6 : Int32) &&& 31)) = 0 then ((f_X4_firstQuarter (f_X4_nextByte (sPW_P_jon u false)).2 (((f_X4_nextByte (sPW_P_jon u false)).1 >>> ((3 : Int32) &&& 31)) &&& (7 : Int32)) ((f_X4_nextByte (sPW_P_jon u false)).1 &&& (7 : Int32))).1, (f_X4_firstQuarter (f_X4_nextByte (sPW_P_jon u false)).2 (((f_X4_nextByte (sPW_P_jon u false)).1 >>> ((3 : Int32) &&& 31)) &&& (7 : Int32)) ((f_X4_nextByte (sPW_P_jon u false)).1 &&& (7 : Int32))).2)
  else 
    if ((f_X4_nextByte (sPW_P_jon u false)).1 >>> ((6 : Int32) &&& 31)) = 1 then ((f_X4_transfer (f_X4_nextByte (sPW_P_jon u false)).2 (((f_X4_nextByte (sPW_P_jon u false)).1 >>> ((3 : Int32) &&& 31)) &&& (7 : Int32)) ((f_X4_nextByte (sPW_P_jon u false)).1 &&& (7 : Int32))).1, (f_X4_transfer (f_X4_nextByte (sPW_P_jon u false)).2 (((f_X4_nextByte (sPW_P_jon u false)).1 >>> ((3 : Int32) &&& 31)) &&& (7 : Int32)) ((f_X4_nextByte (sPW_P_jon u false)).1 &&& (7 : Int32))).2)
    else 
      if ((f_X4_nextByte (sPW_P_jon u false)).1 >>> ((6 : Int32) &&& 31)) = 2 then ((if ((f_X4_nextByte (sPW_P_jon u false)).1 &&& (7 : Int32)) = (6 : Int32) then 7 else 4 : Int32), (sPW_P_r (sPW_F (f_X4_nextByte (sPW_P_jon u false)).2 (f_X0_combine (gPW_F (f_X4_nextByte (sPW_P_jon u false)).2) (((f_X4_nextByte (sPW_P_jon u false)).1 >>> ((3 : Int32) &&& 31)) &&& (7 : Int32)) ((gPW_P_r (f_X4_nextByte (sPW_P_jon u false)).2) (7 : Int32).toNatClampNeg) (f_X4_value (f_X4_nextByte (sPW_P_jon u false)).2 ((f_X4_nextByte (sPW_P_jon u false)).1 &&& (7 : Int32)))).2) (upd (gPW_P_r (sPW_F (f_X4_nextByte (sPW_P_jon u false)).2 (f_X0_combine (gPW_F (f_X4_nextByte (sPW_P_jon u false)).2) (((f_X4_nextByte (sPW_P_jon u false)).1 >>> ((3 : Int32) &&& 31)) &&& (7 : Int32)) ((gPW_P_r (f_X4_nextByte (sPW_P_jon u false)).2) (7 : Int32).toNatClampNeg) (f_X4_value (f_X4_nextByte (sPW_P_jon u false)).2 ((f_X4_nextByte (sPW_P_jon u false)).1 &&& (7 : Int32)))).2)) (7 : Int32).toNatClampNeg (f_X0_combine (gPW_F (f_X4_nextByte (sPW_P_jon u false)).2) (((f_X4_nextByte (sPW_P_jon u false)).1 >>> ((3 : Int32) &&& 31)) &&& (7 : Int32)) ((gPW_P_r (f_X4_nextByte (sPW_P_jon u false)).2) (7 : Int32).toNatClampNeg) (f_X4_value (f_X4_nextByte (sPW_P_jon u false)).2 ((f_X4_nextByte (sPW_P_jon u false)).1 &&& (7 : Int32)))).1)))
      else ((f_X4_lastQuarter (f_X4_nextByte (sPW_P_jon u false)).2 (((f_X4_nextByte (sPW_P_jon u false)).1 >>> ((3 : Int32) &&& 31)) &&& (7 : Int32)) ((f_X4_nextByte (sPW_P_jon u false)).1 &&& (7 : Int32))).1, (f_X4_lastQuarter (f_X4_nextByte (sPW_P_jon u false)).2 (((f_X4_nextByte (sPW_P_jon u false)).1 >>> ((3 : Int32) &&& 31)) &&& (7 : Int32)) ((f_X4_nextByte (sPW_P_jon u false)).1 &&& (7 : Int32))).2)
theorem qX4_instruction_0 : Cond.fieldLink RX4 73 "DiskMachine$Processor" "justSetOn" "Z" ∈ wsX4_instruction := by decide +kernel
theorem qX4_instruction_1 : Cond.fieldLink RX4 27 "DiskMachine$Processor" "registers" "[I" ∈ wsX4_instruction := by decide +kernel
theorem qX4_instruction_2 : Cond.fieldLink RX4 23 "DiskMachine$Processor" "arithmetic" "LDiskMachine$Arithmetic;" ∈ wsX4_instruction := by decide +kernel
theorem iX4_instruction_X4 : ∀ w ∈ wsX40, w ∈ wsX4_instruction := by decide +kernel
set_option maxHeartbeats 4000000 in
set_option maxRecDepth 100000 in
theorem k_X4_instruction (l : Launch) (dC : Nat → ClassId) (dI : Nat → Nat → Nat) (cI : ClassId) (pO mS mA dS dA cO iA oA kO fO aO rA : Nat) (sz : Nat) (u : PW) (hC : ∃ i j : Nat, i < 64 ∧ j ≤ 64 ∧ gCS_fst (gPW_C u) = nI i ∧ gCS_cnt (gPW_C u) = nI j) : Met l yX4_instruction wsX4_instruction ({ frames := 5, cells := 0, slots := 0, locals := 111 }) (va_Pc [.ref pO] (wB dC dI [(cI, .int)] sz (wP cI pO mS mA dS dA cO iA oA kO fO aO rA u))) (va_Qi (fun (r : Int32) (u' : PW) => r = (f_X4_instruction u).1 ∧ u' = (f_X4_instruction u).2) (fun u' => wE dC dI [(cI, .int)] (va_A (wP cI pO mS mA dS dA cO iA oA kO fO aO rA u) sz) (wP cI pO mS mA dS dA cO iA oA kO fO aO rA u')) (va_A (wP cI pO mS mA dS dA cO iA oA kO fO aO rA u) sz)) 0 0 (va_A (wP cI pO mS mA dS dA cO iA oA kO fO aO rA u) sz) := by
  refine Met.ofW (cc := cX4_instruction) (maxL := 4) (ret := (some .int)) (by decide) rfl ?_
  intro p e s m args below meth c s₁ B hml hv
  obtain ⟨rfl, hsz, hP, hK, hD0⟩ := hv
  have hx := B.exec
  have hb := B.bytes
  have hr := B.returns
  have hts := atoms_spec (ws := wsX4_instruction) B.pre
  have hown : s.vm.findClass RX4 = some m.cls := findClass_of_methodNamed B.named
  have hlocks := B.notSynchronized
  subst hsz
  have hD := hD0.self (sz := s.heap.size)
  generalize hAe : va_A (wP cI pO mS mA dS dA cO iA oA kO fO aO rA u) s.heap.size = A at hD ⊢
  have hA : ∀ q : Nat, s.heap.size ≤ q → A q := fun q h => by rw [← hAe]; exact Or.inr h
  have hS : va_S A s.heap s.heap [] := va_S.rf
  have hP : va_P (dC, dI) vwCl (wP cI pO mS mA dS dA cO iA oA kO fO aO rA u) s.heap := hP
  clear hAe hD0
  have hl := lv_entry ([.ref pO]) (n := 4) (Nat.le_of_ble_eq_true rfl)
  rw [lg_entry_eq]
  generalize (lg_sl ([.ref pO]) ++ List.replicate (4 - (lg_sl ([.ref pO])).length) Slot.unset).toArray = ls at hl ⊢
  have hl : lv_has ls 4 [(0, .ref pO)] := hl
  refine jn_H hP hS (fun H locs hP hS => ?_)
  refine lv_aload_n hx hb dX4_instruction_0 rfl (lv_at hl 0 rfl) ?_
  refine lv_iconst (v := 0) hx hb dX4_instruction_1 (by decide) ?_
  refine va_put (D := (dC, dI)) (ci := 4) (v := .int (bI false)) (ty := .boolean) (C := RX4) (T := TX4) (N := 13) hx hb hts iX4_instruction_X4 tyX4 tyX4_ok nmX4 hown hK hP hD hS 0 rfl rfl 10 (by decide) (hts _ qX4_instruction_0) (fun _ h9 => h9) rfl (by decide +kernel) (bI_nar false) (bI_fit false) (Nat.le_of_ble_eq_true rfl) dX4_instruction_2 (fun H locs hP hD hS => ?_)
  obtain ⟨hP, hD⟩ := pP_P_jon hP hD
  refine lv_aload_n hx hb dX4_instruction_5 rfl (lv_at hl 0 rfl) ?_
  obtain ⟨hPc, hDc, hFc⟩ := xP_P hP hD hS hA
  have hKc := hK.sub (tys' := [(cI, .int)]) [0] rfl
  refine va_calli (va_runV (As := []) (rest := []) ⟨hx, hb, hml, hown, hts⟩ (k_X4_nextByte l dC dI cI pO mS mA dS dA cO iA oA kO fO aO rA H.size (sPW_P_jon u false)) (cwV 0 hts gX4_instruction_X4_nextByte rfl rfl rfl (by decide +kernel) ⟨Nat.le_of_ble_eq_true rfl, Nat.le_of_ble_eq_true rfl⟩) ⟨fun a U g mk q => by obtain ⟨q0, q1, qP, qK, qD⟩ := q; exact ⟨q0, q1, qP, va_K.moved (u := U) (U := U.calling g mk a) (Vm.Alike.refl U.vm) qK, qD⟩, va_recv hKc hPc (ci := 4) (q0 := 0) rfl rfl, fun U hU hW => ⟨rfl, by rw [hU], by rw [hU]; exact hPc, va_K.moved hW.alike hKc, hDc.weaken (fun _ _ _ _ => trivial)⟩⟩ rfl rfl hl.1 rfl (lv_room (Nat.le_of_ble_eq_true rfl)) dX4_instruction_6 ⟨Nat.le_of_ble_eq_true rfl, Nat.le_of_ble_eq_true rfl⟩) hS (fun q _ h => hFc q h) hFc (fun r9 u9 t H1 locs ht hvm hw hB hz1 hk1 hS => ?_)
  obtain ⟨rfl, rfl⟩ := hw
  obtain ⟨hP1, hK1, hD1⟩ := hB
  rw [ht] at hP1
  obtain ⟨hP, hD⟩ := jP_P hP hD hk1 hFc hP1 hD1
  clear hPc hDc hKc hFc hz1 hk1 hP1 hK1 hD1 ht hvm
  generalize H1 = H at hP hS ⊢
  refine lv_istore_n (lv' := [(1, .int (f_X4_nextByte (sPW_P_jon u false)).1), (0, .ref pO)]) hx hb dX4_instruction_9 rfl hl (by decide) rfl (fun ls hl => ?_)
  refine lv_iload_n hx hb dX4_instruction_10 rfl (lv_at hl 0 rfl) ?_
  refine lv_iconst (v := 3) hx hb dX4_instruction_11 (by decide) ?_
  refine lv_ishr hx hb dX4_instruction_12 ?_
  refine lv_bipush (v := 7) hx hb dX4_instruction_13 (by decide) ?_
  refine lv_iand hx hb dX4_instruction_15 ?_
  refine lv_topi (fun y1 ey1 => ?_)
  refine lv_istore_n (lv' := [(2, .int y1), (1, .int (f_X4_nextByte (sPW_P_jon u false)).1), (0, .ref pO)]) hx hb dX4_instruction_16 rfl hl (by decide) rfl (fun ls hl => ?_)
  refine lv_iload_n hx hb dX4_instruction_17 rfl (lv_at hl 1 rfl) ?_
  refine lv_bipush (v := 7) hx hb dX4_instruction_18 (by decide) ?_
  refine lv_iand hx hb dX4_instruction_20 ?_
  refine lv_istore_n (lv' := [(3, .int ((f_X4_nextByte (sPW_P_jon u false)).1 &&& (7 : Int32))), (2, .int y1), (1, .int (f_X4_nextByte (sPW_P_jon u false)).1), (0, .ref pO)]) hx hb dX4_instruction_21 rfl hl (by decide) rfl (fun ls hl => ?_)
  refine lv_iload_n hx hb dX4_instruction_22 rfl (lv_at hl 2 rfl) ?_
  refine lv_bipush (v := 6) hx hb dX4_instruction_23 (by decide) ?_
  refine lv_ishr hx hb dX4_instruction_25 ?_
  by_cases c2 : ((f_X4_nextByte (sPW_P_jon u false)).1 >>> ((6 : Int32) &&& 31)) = 0
  · refine tb_in (k := 0) (off := 26) (tgt := 52) hx hb dX4_instruction_26 c2 (by decide) (by decide) (by decide) (by decide) ?_
    refine lv_aload_n hx hb dX4_instruction_52 rfl (lv_at hl 3 rfl) ?_
    refine lv_iload_n hx hb dX4_instruction_53 rfl (lv_at hl 1 rfl) ?_
    refine lv_iload_n hx hb dX4_instruction_54 rfl (lv_at hl 0 rfl) ?_
    obtain ⟨hPc, hDc, hFc⟩ := xP_P hP hD hS hA
    have hKc := hK.sub (tys' := [(cI, .int)]) [0] rfl
    refine va_calli (va_runV (As := [.int y1, .int ((f_X4_nextByte (sPW_P_jon u false)).1 &&& (7 : Int32))]) (rest := []) ⟨hx, hb, hml, hown, hts⟩ (k_X4_firstQuarter l dC dI cI pO mS mA dS dA cO iA oA kO fO aO rA H.size (f_X4_nextByte (sPW_P_jon u false)).2 y1 ((f_X4_nextByte (sPW_P_jon u false)).1 &&& (7 : Int32)) (by rw [ey1]; exact (ix_8 _))) (cwV 2 hts gX4_instruction_X4_firstQuarter rfl rfl rfl (by decide +kernel) ⟨Nat.le_of_ble_eq_true rfl, Nat.le_of_ble_eq_true rfl⟩) ⟨fun a U g mk q => by obtain ⟨q0, q1, qP, qK, qD⟩ := q; exact ⟨q0, q1, qP, va_K.moved (u := U) (U := U.calling g mk a) (Vm.Alike.refl U.vm) qK, qD⟩, va_recv hKc hPc (ci := 4) (q0 := 0) rfl rfl, fun U hU hW => ⟨rfl, by rw [hU], by rw [hU]; exact hPc, va_K.moved hW.alike hKc, hDc.weaken (fun _ _ _ _ => trivial)⟩⟩ rfl rfl hl.1 rfl (lv_room (Nat.le_of_ble_eq_true rfl)) dX4_instruction_55 ⟨Nat.le_of_ble_eq_true rfl, Nat.le_of_ble_eq_true rfl⟩) hS (fun q _ h => hFc q h) hFc (fun r9 u9 t H1 locs ht hvm hw hB hz1 hk1 hS => ?_)
    obtain ⟨rfl, rfl⟩ := hw
    obtain ⟨hP1, hK1, hD1⟩ := hB
    rw [ht] at hP1
    obtain ⟨hP, hD⟩ := jP_P hP hD hk1 hFc hP1 hD1
    clear hPc hDc hKc hFc hz1 hk1 hP1 hK1 hD1 ht hvm
    generalize H1 = H at hP hS ⊢
    exact W.iret (v := (f_X4_firstQuarter (f_X4_nextByte (sPW_P_jon u false)).2 y1 ((f_X4_nextByte (sPW_P_jon u false)).1 &&& (7 : Int32))).1) hx hb hr (fun t ht hW => ⟨⟨(f_X4_firstQuarter (f_X4_nextByte (sPW_P_jon u false)).2 y1 ((f_X4_nextByte (sPW_P_jon u false)).1 &&& (7 : Int32))).1, (f_X4_firstQuarter (f_X4_nextByte (sPW_P_jon u false)).2 y1 ((f_X4_nextByte (sPW_P_jon u false)).1 &&& (7 : Int32))).2, rfl, ⟨(by subst ey1; simp only [f_X4_instruction, if_pos c2]), (by subst ey1; simp only [f_X4_instruction, if_pos c2])⟩, by rw [ht]; exact hP, va_K.moved hW.alike hK, hD⟩, hS.F ht⟩) hS.2.2 dX4_instruction_58
  · skip
    by_cases c3 : ((f_X4_nextByte (sPW_P_jon u false)).1 >>> ((6 : Int32) &&& 31)) = 1
    · refine tb_in (k := 1) (off := 33) (tgt := 59) hx hb dX4_instruction_26 c3 (by decide) (by decide) (by decide) (by decide) ?_
      refine lv_aload_n hx hb dX4_instruction_59 rfl (lv_at hl 3 rfl) ?_
      refine lv_iload_n hx hb dX4_instruction_60 rfl (lv_at hl 1 rfl) ?_
      refine lv_iload_n hx hb dX4_instruction_61 rfl (lv_at hl 0 rfl) ?_
      obtain ⟨hPc, hDc, hFc⟩ := xP_P hP hD hS hA
      have hKc := hK.sub (tys' := [(cI, .int)]) [0] rfl
      refine va_calli (va_runV (As := [.int y1, .int ((f_X4_nextByte (sPW_P_jon u false)).1 &&& (7 : Int32))]) (rest := []) ⟨hx, hb, hml, hown, hts⟩ (k_X4_transfer l dC dI cI pO mS mA dS dA cO iA oA kO fO aO rA H.size (f_X4_nextByte (sPW_P_jon u false)).2 y1 ((f_X4_nextByte (sPW_P_jon u false)).1 &&& (7 : Int32)) (by rw [ey1]; exact (ix_8 _)) (ix_8 _)) (cwV 2 hts gX4_instruction_X4_transfer rfl rfl rfl (by decide +kernel) ⟨Nat.le_of_ble_eq_true rfl, Nat.le_of_ble_eq_true rfl⟩) ⟨fun a U g mk q => by obtain ⟨q0, q1, qP, qK, qD⟩ := q; exact ⟨q0, q1, qP, va_K.moved (u := U) (U := U.calling g mk a) (Vm.Alike.refl U.vm) qK, qD⟩, va_recv hKc hPc (ci := 4) (q0 := 0) rfl rfl, fun U hU hW => ⟨rfl, by rw [hU], by rw [hU]; exact hPc, va_K.moved hW.alike hKc, hDc.weaken (fun _ _ _ _ => trivial)⟩⟩ rfl rfl hl.1 rfl (lv_room (Nat.le_of_ble_eq_true rfl)) dX4_instruction_62 ⟨Nat.le_of_ble_eq_true rfl, Nat.le_of_ble_eq_true rfl⟩) hS (fun q _ h => hFc q h) hFc (fun r9 u9 t H1 locs ht hvm hw hB hz1 hk1 hS => ?_)
      obtain ⟨rfl, rfl⟩ := hw
      obtain ⟨hP1, hK1, hD1⟩ := hB
      rw [ht] at hP1
      obtain ⟨hP, hD⟩ := jP_P hP hD hk1 hFc hP1 hD1
      clear hPc hDc hKc hFc hz1 hk1 hP1 hK1 hD1 ht hvm
      generalize H1 = H at hP hS ⊢
      exact W.iret (v := (f_X4_transfer (f_X4_nextByte (sPW_P_jon u false)).2 y1 ((f_X4_nextByte (sPW_P_jon u false)).1 &&& (7 : Int32))).1) hx hb hr (fun t ht hW => ⟨⟨(f_X4_transfer (f_X4_nextByte (sPW_P_jon u false)).2 y1 ((f_X4_nextByte (sPW_P_jon u false)).1 &&& (7 : Int32))).1, (f_X4_transfer (f_X4_nextByte (sPW_P_jon u false)).2 y1 ((f_X4_nextByte (sPW_P_jon u false)).1 &&& (7 : Int32))).2, rfl, ⟨(by subst ey1; simp only [f_X4_instruction, if_neg c2, if_pos c3]), (by subst ey1; simp only [f_X4_instruction, if_neg c2, if_pos c3])⟩, by rw [ht]; exact hP, va_K.moved hW.alike hK, hD⟩, hS.F ht⟩) hS.2.2 dX4_instruction_65
    · skip
      by_cases c4 : ((f_X4_nextByte (sPW_P_jon u false)).1 >>> ((6 : Int32) &&& 31)) = 2
      · refine tb_in (k := 2) (off := 40) (tgt := 66) hx hb dX4_instruction_26 c4 (by decide) (by decide) (by decide) (by decide) ?_
        refine lv_aload_n hx hb dX4_instruction_66 rfl (lv_at hl 3 rfl) ?_
        refine va_get (D := (dC, dI)) (ci := 4) (v := .ref rA) (C := RX4) (T := TX4) (N := 13) hx hb hts iX4_instruction_X4 hown hK hP 0 rfl rfl 5 (by decide) (hts _ qX4_instruction_1) (fun _ h9 => h9) rfl dX4_instruction_67 ?_
        refine lv_bipush (v := 7) hx hb dX4_instruction_70 (by decide) ?_
        refine lv_aload_n hx hb dX4_instruction_72 rfl (lv_at hl 3 rfl) ?_
        refine va_get (D := (dC, dI)) (ci := 4) (v := .ref aO) (C := RX4) (T := TX4) (N := 13) hx hb hts iX4_instruction_X4 hown hK hP 0 rfl rfl 4 (by decide) (hts _ qX4_instruction_2) (fun _ h9 => h9) rfl dX4_instruction_73 ?_
        refine lv_iload_n hx hb dX4_instruction_76 rfl (lv_at hl 1 rfl) ?_
        refine lv_aload_n hx hb dX4_instruction_77 rfl (lv_at hl 3 rfl) ?_
        refine va_get (D := (dC, dI)) (ci := 4) (v := .ref rA) (C := RX4) (T := TX4) (N := 13) hx hb hts iX4_instruction_X4 hown hK hP 0 rfl rfl 5 (by decide) (hts _ qX4_instruction_1) (fun _ h9 => h9) rfl dX4_instruction_78 ?_
        refine lv_bipush (v := 7) hx hb dX4_instruction_81 (by decide) ?_
        refine va_iald (f := (gPW_P_r (f_X4_nextByte (sPW_P_jon u false)).2)) hx hb hK hP 11 0 rfl rfl (ix_lit (by decide)) dX4_instruction_83 ?_
        refine lv_aload_n hx hb dX4_instruction_84 rfl (lv_at hl 3 rfl) ?_
        refine lv_iload_n hx hb dX4_instruction_85 rfl (lv_at hl 0 rfl) ?_
        obtain ⟨hPc, hDc, hFc⟩ := xP_P hP hD hS hA
        have hKc := hK.sub (tys' := [(cI, .int)]) [0] rfl
        refine va_calli (va_runV (As := [.int ((f_X4_nextByte (sPW_P_jon u false)).1 &&& (7 : Int32))]) (rest := [.int ((gPW_P_r (f_X4_nextByte (sPW_P_jon u false)).2) (7 : Int32).toNatClampNeg), .int y1, .ref aO, .int 7, .ref rA]) ⟨hx, hb, hml, hown, hts⟩ (k_X4_value l dC dI cI pO mS mA dS dA cO iA oA kO fO aO rA H.size (f_X4_nextByte (sPW_P_jon u false)).2 ((f_X4_nextByte (sPW_P_jon u false)).1 &&& (7 : Int32)) (ix_8 _)) (cwV 1 hts gX4_instruction_X4_value rfl rfl rfl (by decide +kernel) ⟨Nat.le_of_ble_eq_true rfl, Nat.le_of_ble_eq_true rfl⟩) ⟨fun a U g mk q => by obtain ⟨q0, q1, qP, qK, qD⟩ := q; exact ⟨q0, q1, qP, va_K.moved (u := U) (U := U.calling g mk a) (Vm.Alike.refl U.vm) qK, qD⟩, va_recv hKc hPc (ci := 4) (q0 := 0) rfl rfl, fun U hU hW => ⟨rfl, by rw [hU], by rw [hU]; exact hPc, va_K.moved hW.alike hKc, hDc.weaken (fun _ _ _ _ => trivial)⟩⟩ rfl rfl hl.1 rfl (lv_room (Nat.le_of_ble_eq_true rfl)) dX4_instruction_86 ⟨Nat.le_of_ble_eq_true rfl, Nat.le_of_ble_eq_true rfl⟩) hS (fun q _ h => hFc q h) hFc (fun r9 u9 t H1 locs ht hvm hw hB hz1 hk1 hS => ?_)
        obtain ⟨hw1, hw2⟩ := hw
        have hw2 := hw2.symm
        subst hw1 hw2
        obtain ⟨hP1, hK1, hD1⟩ := hB
        rw [ht] at hP1
        obtain ⟨hP, hD⟩ := jP_P0 hP hD hk1 hFc hP1 hD1
        clear hPc hDc hKc hFc hz1 hk1 hP1 hK1 hD1 ht hvm
        generalize H1 = H at hP hS ⊢
        obtain ⟨hPc, hDc, hFc⟩ := xP_A hP hD hS hA
        have hKc := hK.sub (tys' := [(cI, .int)]) [0] rfl
        refine va_calli (va_runV (As := [.int y1, .int ((gPW_P_r (f_X4_nextByte (sPW_P_jon u false)).2) (7 : Int32).toNatClampNeg), .int (f_X4_value (f_X4_nextByte (sPW_P_jon u false)).2 ((f_X4_nextByte (sPW_P_jon u false)).1 &&& (7 : Int32)))]) (rest := [.int 7, .ref rA]) ⟨hx, hb, hml, hown, hts⟩ (k_X0_combine l dC dI cI aO fO H.size (gPW_F (f_X4_nextByte (sPW_P_jon u false)).2) y1 ((gPW_P_r (f_X4_nextByte (sPW_P_jon u false)).2) (7 : Int32).toNatClampNeg) (f_X4_value (f_X4_nextByte (sPW_P_jon u false)).2 ((f_X4_nextByte (sPW_P_jon u false)).1 &&& (7 : Int32)))) (cwV 3 hts gX4_instruction_X0_combine rfl rfl rfl (by decide +kernel) ⟨Nat.le_of_ble_eq_true rfl, Nat.le_of_ble_eq_true rfl⟩) ⟨fun a U g mk q => by obtain ⟨q0, q1, qP, qK, qD⟩ := q; exact ⟨q0, q1, qP, va_K.moved (u := U) (U := U.calling g mk a) (Vm.Alike.refl U.vm) qK, qD⟩, va_recv hKc hPc (ci := 0) (q0 := 0) rfl rfl, fun U hU hW => ⟨rfl, by rw [hU], by rw [hU]; exact hPc, va_K.moved hW.alike hKc, hDc.weaken (fun _ _ _ _ => trivial)⟩⟩ rfl rfl hl.1 rfl (lv_room (Nat.le_of_ble_eq_true rfl)) dX4_instruction_89 ⟨Nat.le_of_ble_eq_true rfl, Nat.le_of_ble_eq_true rfl⟩) hS (fun q _ h => hFc q h) hFc (fun r9 u9 t H1 locs ht hvm hw hB hz1 hk1 hS => ?_)
        obtain ⟨rfl, rfl⟩ := hw
        obtain ⟨hP1, hK1, hD1⟩ := hB
        rw [ht] at hP1
        obtain ⟨hP, hD⟩ := jP_A hP hD hk1 hFc hP1 hD1
        clear hPc hDc hKc hFc hz1 hk1 hP1 hK1 hD1 ht hvm
        generalize H1 = H at hP hS ⊢
        refine va_iast (f := (gPW_P_r (sPW_F (f_X4_nextByte (sPW_P_jon u false)).2 (f_X0_combine (gPW_F (f_X4_nextByte (sPW_P_jon u false)).2) y1 ((gPW_P_r (f_X4_nextByte (sPW_P_jon u false)).2) (7 : Int32).toNatClampNeg) (f_X4_value (f_X4_nextByte (sPW_P_jon u false)).2 ((f_X4_nextByte (sPW_P_jon u false)).1 &&& (7 : Int32)))).2))) hx hb hK hP hD hS 11 0 rfl rfl (ix_lit (by decide)) dX4_instruction_92 (fun H locs hP hD hS => ?_)
        obtain ⟨hP, hD⟩ := aP_rA hP hD
        refine lv_iload_n hx hb dX4_instruction_93 rfl (lv_at hl 0 rfl) ?_
        refine lv_bipush (v := 6) hx hb dX4_instruction_94 (by decide) ?_
        refine jn_i (D := (dC, dI)) (cl := vwCl) (ws := (wP cI pO mS mA dS dA cO iA oA kO fO aO rA (sPW_P_r (sPW_F (f_X4_nextByte (sPW_P_jon u false)).2 (f_X0_combine (gPW_F (f_X4_nextByte (sPW_P_jon u false)).2) y1 ((gPW_P_r (f_X4_nextByte (sPW_P_jon u false)).2) (7 : Int32).toNatClampNeg) (f_X4_value (f_X4_nextByte (sPW_P_jon u false)).2 ((f_X4_nextByte (sPW_P_jon u false)).1 &&& (7 : Int32)))).2) (upd (gPW_P_r (sPW_F (f_X4_nextByte (sPW_P_jon u false)).2 (f_X0_combine (gPW_F (f_X4_nextByte (sPW_P_jon u false)).2) y1 ((gPW_P_r (f_X4_nextByte (sPW_P_jon u false)).2) (7 : Int32).toNatClampNeg) (f_X4_value (f_X4_nextByte (sPW_P_jon u false)).2 ((f_X4_nextByte (sPW_P_jon u false)).1 &&& (7 : Int32)))).2)) (7 : Int32).toNatClampNeg (f_X0_combine (gPW_F (f_X4_nextByte (sPW_P_jon u false)).2) y1 ((gPW_P_r (f_X4_nextByte (sPW_P_jon u false)).2) (7 : Int32).toNatClampNeg) (f_X4_value (f_X4_nextByte (sPW_P_jon u false)).2 ((f_X4_nextByte (sPW_P_jon u false)).1 &&& (7 : Int32)))).1)))) (A := A) (H0 := s.heap) (nL := 4) 105 (if ((f_X4_nextByte (sPW_P_jon u false)).1 &&& (7 : Int32)) = (6 : Int32) then 7 else 4 : Int32) [(0, .ref pO), (1, .int (f_X4_nextByte (sPW_P_jon u false)).1), (2, .int y1), (3, .int ((f_X4_nextByte (sPW_P_jon u false)).1 &&& (7 : Int32)))] [] (fun H locs ls hP hS hl => ?_) (fun hJ5 => ?_)
        · skip
          exact W.iret (v := (if ((f_X4_nextByte (sPW_P_jon u false)).1 &&& (7 : Int32)) = (6 : Int32) then 7 else 4 : Int32)) hx hb hr (fun t ht hW => ⟨⟨(if ((f_X4_nextByte (sPW_P_jon u false)).1 &&& (7 : Int32)) = (6 : Int32) then 7 else 4 : Int32), (sPW_P_r (sPW_F (f_X4_nextByte (sPW_P_jon u false)).2 (f_X0_combine (gPW_F (f_X4_nextByte (sPW_P_jon u false)).2) y1 ((gPW_P_r (f_X4_nextByte (sPW_P_jon u false)).2) (7 : Int32).toNatClampNeg) (f_X4_value (f_X4_nextByte (sPW_P_jon u false)).2 ((f_X4_nextByte (sPW_P_jon u false)).1 &&& (7 : Int32)))).2) (upd (gPW_P_r (sPW_F (f_X4_nextByte (sPW_P_jon u false)).2 (f_X0_combine (gPW_F (f_X4_nextByte (sPW_P_jon u false)).2) y1 ((gPW_P_r (f_X4_nextByte (sPW_P_jon u false)).2) (7 : Int32).toNatClampNeg) (f_X4_value (f_X4_nextByte (sPW_P_jon u false)).2 ((f_X4_nextByte (sPW_P_jon u false)).1 &&& (7 : Int32)))).2)) (7 : Int32).toNatClampNeg (f_X0_combine (gPW_F (f_X4_nextByte (sPW_P_jon u false)).2) y1 ((gPW_P_r (f_X4_nextByte (sPW_P_jon u false)).2) (7 : Int32).toNatClampNeg) (f_X4_value (f_X4_nextByte (sPW_P_jon u false)).2 ((f_X4_nextByte (sPW_P_jon u false)).1 &&& (7 : Int32)))).1)), rfl, ⟨(by subst ey1; simp only [f_X4_instruction, if_neg c2, if_neg c3, if_pos c4]), (by subst ey1; simp only [f_X4_instruction, if_neg c2, if_neg c3, if_pos c4])⟩, by rw [ht]; exact hP, va_K.moved hW.alike hK, hD⟩, hS.F ht⟩) hS.2.2 dX4_instruction_105
        · skip
          refine lv_icmp_ne (tgt := 104) hx hb dX4_instruction_96 (by decide) (fun c6 => ?_) (fun c6 => ?_)
          · skip
            refine lv_iconst (v := 4) hx hb dX4_instruction_104 (by decide) ?_
            exact hJ5 4 _ _ _ (by simp only [if_neg c6]) hP hS (lv_sub hl [3, 2, 1, 0] rfl)
          · skip
            refine lv_bipush (v := 7) hx hb dX4_instruction_99 (by decide) ?_
            refine lv_goto (tgt := 105) hx hb dX4_instruction_101 (by decide) ?_
            exact hJ5 7 _ _ _ (by simp only [if_pos c6]) hP hS (lv_sub hl [3, 2, 1, 0] rfl)
      · skip
        refine lv_tableOut (tgt := 106) hx hb dX4_instruction_26 (by have r0 := lv_neT c2 (a := 0) (by decide); have r1 := lv_neT c3 (a := 1) (by decide); have r2 := lv_neT c4 (a := 2) (by decide); omega) (by decide) ?_
        refine lv_aload_n hx hb dX4_instruction_106 rfl (lv_at hl 3 rfl) ?_
        refine lv_iload_n hx hb dX4_instruction_107 rfl (lv_at hl 1 rfl) ?_
        refine lv_iload_n hx hb dX4_instruction_108 rfl (lv_at hl 0 rfl) ?_
        obtain ⟨hPc, hDc, hFc⟩ := xP_P hP hD hS hA
        have hKc := hK.sub (tys' := [(cI, .int)]) [0] rfl
        refine va_calli (va_runV (As := [.int y1, .int ((f_X4_nextByte (sPW_P_jon u false)).1 &&& (7 : Int32))]) (rest := []) ⟨hx, hb, hml, hown, hts⟩ (k_X4_lastQuarter l dC dI cI pO mS mA dS dA cO iA oA kO fO aO rA H.size (f_X4_nextByte (sPW_P_jon u false)).2 y1 ((f_X4_nextByte (sPW_P_jon u false)).1 &&& (7 : Int32)) (by rw [ey1]; exact (ix_8 _)) hC) (cwV 2 hts gX4_instruction_X4_lastQuarter rfl rfl rfl (by decide +kernel) ⟨Nat.le_of_ble_eq_true rfl, Nat.le_of_ble_eq_true rfl⟩) ⟨fun a U g mk q => by obtain ⟨q0, q1, qP, qK, qD⟩ := q; exact ⟨q0, q1, qP, va_K.moved (u := U) (U := U.calling g mk a) (Vm.Alike.refl U.vm) qK, qD⟩, va_recv hKc hPc (ci := 4) (q0 := 0) rfl rfl, fun U hU hW => ⟨rfl, by rw [hU], by rw [hU]; exact hPc, va_K.moved hW.alike hKc, hDc.weaken (fun _ _ _ _ => trivial)⟩⟩ rfl rfl hl.1 rfl (lv_room (Nat.le_of_ble_eq_true rfl)) dX4_instruction_109 ⟨Nat.le_of_ble_eq_true rfl, Nat.le_of_ble_eq_true rfl⟩) hS (fun q _ h => hFc q h) hFc (fun r9 u9 t H1 locs ht hvm hw hB hz1 hk1 hS => ?_)
        obtain ⟨rfl, rfl⟩ := hw
        obtain ⟨hP1, hK1, hD1⟩ := hB
        rw [ht] at hP1
        obtain ⟨hP, hD⟩ := jP_P hP hD hk1 hFc hP1 hD1
        clear hPc hDc hKc hFc hz1 hk1 hP1 hK1 hD1 ht hvm
        generalize H1 = H at hP hS ⊢
        exact W.iret (v := (f_X4_lastQuarter (f_X4_nextByte (sPW_P_jon u false)).2 y1 ((f_X4_nextByte (sPW_P_jon u false)).1 &&& (7 : Int32))).1) hx hb hr (fun t ht hW => ⟨⟨(f_X4_lastQuarter (f_X4_nextByte (sPW_P_jon u false)).2 y1 ((f_X4_nextByte (sPW_P_jon u false)).1 &&& (7 : Int32))).1, (f_X4_lastQuarter (f_X4_nextByte (sPW_P_jon u false)).2 y1 ((f_X4_nextByte (sPW_P_jon u false)).1 &&& (7 : Int32))).2, rfl, ⟨(by subst ey1; simp only [f_X4_instruction, if_neg c2, if_neg c3, if_neg c4]), (by subst ey1; simp only [f_X4_instruction, if_neg c2, if_neg c3, if_neg c4])⟩, by rw [ht]; exact hP, va_K.moved hW.alike hK, hD⟩, hS.F ht⟩) hS.2.2 dX4_instruction_112
