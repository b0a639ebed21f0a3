def f_X7_three (u : MW) (a1 : Int32) (a2 : Int32) : MW := 
  if a2 = 0 then 
    if (bI (f_X7_holds (sMW_spent u (if (bI (f_X7_holds u a1)) = (0 : Int32) then 5 else 11 : Int32)) a1)) = (0 : Int32) then (sMW_pc (sMW_spent u (if (bI (f_X7_holds u a1)) = (0 : Int32) then 5 else 11 : Int32)) (gMW_pc (sMW_spent u (if (bI (f_X7_holds u a1)) = (0 : Int32) then 5 else 11 : Int32))))
    else (sMW_pc (f_X7_pop (sMW_spent u (if (bI (f_X7_holds u a1)) = (0 : Int32) then 5 else 11 : Int32))).2 (f_X7_pop (sMW_spent u (if (bI (f_X7_holds u a1)) = (0 : Int32) then 5 else 11 : Int32))).1)
  else 
    if a2 = 1 then (f_X7_single u a1)
    else 
      if a2 = 2 then (f_X7_jumpTo u (f_X7_holds u a1) false 10)
      else 
        if a2 = 3 then (f_X7_special u a1)
        else 
          if a2 = 4 then (f_X7_jumpTo u (f_X7_holds u a1) true (if (bI (f_X7_holds u a1)) = (0 : Int32) then 11 else 17 : Int32))
          else 
            if a2 = 5 then 
              if (bI (if (a1 - a1 / (2 : Int32) * (2 : Int32)) = (1 : Int32) then true else false : Bool)) = (0 : Int32) then (f_X7_push (sMW_spent u 11) (if a1 = (6 : Int32) then ((((gMW_r (sMW_spent u 11)) (7 : Int32).toNatClampNeg) <<< ((8 : Int32) &&& 31)) ||| (f_X7_flags (sMW_spent u 11))) else (f_X7_pair (sMW_spent u 11) (a1 / (2 : Int32))) : Int32))
              else (f_X7_jumpTo u true true 17)
            else 
              if a2 = 6 then (f_X7_reckon (f_X7_next (sMW_spent u 7)).2 a1 (f_X7_next (sMW_spent u 7)).1)
              else (sMW_pc (f_X7_push (sMW_spent u 11) (gMW_pc (sMW_spent u 11))) ((8 : Int32) * a1))
theorem qX7_three_0 : Cond.fieldLink RX7 141 "DiskMachineModel" "spent" "I" ∈ wsX7_three := by decide +kernel
theorem qX7_three_1 : Cond.fieldLink RX7 47 "DiskMachineModel" "pc" "I" ∈ wsX7_three := by decide +kernel
theorem qX7_three_2 : Cond.fieldLink RX7 16 "DiskMachineModel" "\x72" "[I" ∈ wsX7_three := by decide +kernel
theorem iX7_three_X7 : ∀ w ∈ wsX70, w ∈ wsX7_three := by decide +kernel
set_option maxHeartbeats 4000000 in
set_option maxRecDepth 100000 in
theorem k_X7_three (l : Launch) (dC : Nat → ClassId) (dI : Nat → Nat → Nat) (cI : ClassId) (mO memA dskA rgA inA outA : Nat) (sz : Nat) (u : MW) (a1 : Int32) (a2 : Int32) (h1 : vp_in a1 8) (hI : ∃ q : Nat, q ≤ 64 ∧ gMW_ins u = nI q) (hO : ¬ gMW_outs u < 0) : Met l yX7_three wsX7_three ({ frames := 4, cells := 0, slots := 0, locals := 89 }) (va_Pc [.ref mO, .int a1, .int a2] (wB dC dI [(cI, .int)] sz (wM cI mO memA dskA rgA inA outA u))) (va_Qv (fun u' : MW => u' = (f_X7_three u a1 a2)) (fun u' => wE dC dI [(cI, .int)] (va_A (wM cI mO memA dskA rgA inA outA u) sz) (wM cI mO memA dskA rgA inA outA u')) (va_A (wM cI mO memA dskA rgA inA outA u) sz)) 0 0 (va_A (wM cI mO memA dskA rgA inA outA u) sz) := by
  refine Met.ofW (cc := cX7_three) (maxL := 4) (ret := none) (by decide) rfl ?_
  intro p e s m args below meth c s₁ B hml hv
  obtain ⟨rfl, hsz, hP, hK, hD0⟩ := hv
  have hx := B.exec
  have hb := B.bytes
  have hr := B.returns
  have hts := atoms_spec (ws := wsX7_three) B.pre
  have hown : s.vm.findClass RX7 = some m.cls := findClass_of_methodNamed B.named
  have hlocks := B.notSynchronized
  subst hsz
  have hD := hD0.self (sz := s.heap.size)
  generalize hAe : va_A (wM cI mO memA dskA rgA inA outA u) s.heap.size = A at hD ⊢
  have hA : ∀ q : Nat, s.heap.size ≤ q → A q := fun q h => by rw [← hAe]; exact Or.inr h
  have hS : va_S A s.heap s.heap [] := va_S.rf
  have hP : va_P (dC, dI) vwCl (wM cI mO memA dskA rgA inA outA u) s.heap := hP
  clear hAe hD0
  have hl := lv_entry ([.ref mO, .int a1, .int a2]) (n := 4) (Nat.le_of_ble_eq_true rfl)
  rw [lg_entry_eq]
  generalize (lg_sl ([.ref mO, .int a1, .int a2]) ++ List.replicate (4 - (lg_sl ([.ref mO, .int a1, .int a2])).length) Slot.unset).toArray = ls at hl ⊢
  have hl : lv_has ls 4 [(0, .ref mO), (1, .int a1), (2, .int a2)] := hl
  refine jn_H hP hS (fun H locs hP hS => ?_)
  refine lv_iload_n hx hb dX7_three_0 rfl (lv_at hl 1 rfl) ?_
  refine lv_iconst (v := 2) hx hb dX7_three_1 (by decide) ?_
  refine lv_irem hx hb dX7_three_2 (by decide) ?_
  refine lv_iconst (v := 1) hx hb dX7_three_3 (by decide) ?_
  refine jn_b (D := (dC, dI)) (cl := vwCl) (ws := (wM cI mO memA dskA rgA inA outA u)) (A := A) (H0 := s.heap) (nL := 4) 12 (if (a1 - a1 / (2 : Int32) * (2 : Int32)) = (1 : Int32) then true else false : Bool) [(0, .ref mO), (1, .int a1), (2, .int a2)] [] (fun H locs ls hP hS hl => ?_) (fun hJ1 => ?_)
  · skip
    refine lv_istore_n (lv' := [(3, .int (bI (if (a1 - a1 / (2 : Int32) * (2 : Int32)) = (1 : Int32) then true else false : Bool))), (0, .ref mO), (1, .int a1), (2, .int a2)]) hx hb dX7_three_12 rfl hl (by decide) rfl (fun ls hl => ?_)
    refine lv_iload_n hx hb dX7_three_13 rfl (lv_at hl 3 rfl) ?_
    by_cases c2 : a2 = 0
    · refine tb_in (k := 0) (off := 42) (tgt := 56) hx hb dX7_three_14 c2 (by decide) (by decide) (by decide) (by decide) ?_
      refine lv_aload_n hx hb dX7_three_56 rfl (lv_at hl 1 rfl) ?_
      refine lv_aload_n hx hb dX7_three_57 rfl (lv_at hl 1 rfl) ?_
      refine lv_iload_n hx hb dX7_three_58 rfl (lv_at hl 2 rfl) ?_
      obtain ⟨hPc, hDc, hFc⟩ := xM_M hP hD hS hA
      have hKc := hK.sub (tys' := [(cI, .int)]) [0] rfl
      refine va_calli (va_runV (As := [.int a1]) (rest := [.ref mO]) ⟨hx, hb, hml, hown, hts⟩ (k_X7_holds l dC dI cI mO memA dskA rgA inA outA H.size u a1) (cwV 1 hts gX7_three_X7_holds rfl rfl rfl (by decide +kernel) ⟨Nat.le_of_ble_eq_true rfl, Nat.le_of_ble_eq_true rfl⟩) ⟨fun a U g mk q => by obtain ⟨q0, q1, qP, qK, qD⟩ := q; exact ⟨q0, q1, qP, va_K.moved (u := U) (U := U.calling g mk a) (Vm.Alike.refl U.vm) qK, qD⟩, va_recv hKc hPc (ci := 7) (q0 := 0) rfl rfl, fun U hU hW => ⟨rfl, by rw [hU], by rw [hU]; exact hPc, va_K.moved hW.alike hKc, hDc.weaken (fun _ _ _ _ => trivial)⟩⟩ rfl rfl hl.1 rfl (lv_room (Nat.le_of_ble_eq_true rfl)) dX7_three_59 ⟨Nat.le_of_ble_eq_true rfl, Nat.le_of_ble_eq_true rfl⟩) hS (fun q _ h => hFc q h) hFc (fun r9 u9 t H1 locs ht hvm hw hB hz1 hk1 hS => ?_)
      obtain ⟨hw1, hw2⟩ := hw
      have hw2 := hw2.symm
      subst hw1 hw2
      obtain ⟨hP1, hK1, hD1⟩ := hB
      rw [ht] at hP1
      obtain ⟨hP, hD⟩ := jM_M0 hP hD hk1 hFc hP1 hD1
      clear hPc hDc hKc hFc hz1 hk1 hP1 hK1 hD1 ht hvm
      generalize H1 = H at hP hS ⊢
      refine jn_i (D := (dC, dI)) (cl := vwCl) (ws := (wM cI mO memA dskA rgA inA outA u)) (A := A) (H0 := s.heap) (nL := 4) 71 (if (bI (f_X7_holds u a1)) = (0 : Int32) then 5 else 11 : Int32) [(0, .ref mO), (1, .int a1), (2, .int a2), (3, .int (bI (if (a1 - a1 / (2 : Int32) * (2 : Int32)) = (1 : Int32) then true else false : Bool)))] [.ref mO] (fun H locs ls hP hS hl => ?_) (fun hJ3 => ?_)
      · skip
        refine va_put (D := (dC, dI)) (ci := 7) (v := .int (if (bI (f_X7_holds u a1)) = (0 : Int32) then 5 else 11 : Int32)) (ty := .int) (C := RX7) (T := TX7) (N := 30) hx hb hts iX7_three_X7 tyX7 tyX7_ok nmX7 hown hK hP hD hS 0 rfl rfl 16 (by decide) (hts _ qX7_three_0) (fun _ h9 => h9) rfl (by decide +kernel) rfl rfl (Nat.le_of_ble_eq_true rfl) dX7_three_71 (fun H locs hP hD hS => ?_)
        obtain ⟨hP, hD⟩ := pM_spent hP hD
        refine lv_aload_n hx hb dX7_three_74 rfl (lv_at hl 0 rfl) ?_
        refine lv_aload_n hx hb dX7_three_75 rfl (lv_at hl 0 rfl) ?_
        refine lv_iload_n hx hb dX7_three_76 rfl (lv_at hl 1 rfl) ?_
        obtain ⟨hPc, hDc, hFc⟩ := xM_M hP hD hS hA
        have hKc := hK.sub (tys' := [(cI, .int)]) [0] rfl
        refine va_calli (va_runV (As := [.int a1]) (rest := [.ref mO]) ⟨hx, hb, hml, hown, hts⟩ (k_X7_holds l dC dI cI mO memA dskA rgA inA outA H.size (sMW_spent u (if (bI (f_X7_holds u a1)) = (0 : Int32) then 5 else 11 : Int32)) a1) (cwV 1 hts gX7_three_X7_holds rfl rfl rfl (by decide +kernel) ⟨Nat.le_of_ble_eq_true rfl, Nat.le_of_ble_eq_true rfl⟩) ⟨fun a U g mk q => by obtain ⟨q0, q1, qP, qK, qD⟩ := q; exact ⟨q0, q1, qP, va_K.moved (u := U) (U := U.calling g mk a) (Vm.Alike.refl U.vm) qK, qD⟩, va_recv hKc hPc (ci := 7) (q0 := 0) rfl rfl, fun U hU hW => ⟨rfl, by rw [hU], by rw [hU]; exact hPc, va_K.moved hW.alike hKc, hDc.weaken (fun _ _ _ _ => trivial)⟩⟩ rfl rfl hl.1 rfl (lv_room (Nat.le_of_ble_eq_true rfl)) dX7_three_77 ⟨Nat.le_of_ble_eq_true rfl, Nat.le_of_ble_eq_true rfl⟩) hS (fun q _ h => hFc q h) hFc (fun r9 u9 t H1 locs ht hvm hw hB hz1 hk1 hS => ?_)
        obtain ⟨hw1, hw2⟩ := hw
        have hw2 := hw2.symm
        subst hw1 hw2
        obtain ⟨hP1, hK1, hD1⟩ := hB
        rw [ht] at hP1
        obtain ⟨hP, hD⟩ := jM_M0 hP hD hk1 hFc hP1 hD1
        clear hPc hDc hKc hFc hz1 hk1 hP1 hK1 hD1 ht hvm
        generalize H1 = H at hP hS ⊢
        refine lv_if_eq (tgt := 90) hx hb dX7_three_80 (by decide) (fun c4 => ?_) (fun c4 => ?_)
        · skip
          refine lv_aload_n hx hb dX7_three_90 rfl (lv_at hl 0 rfl) ?_
          refine va_get (D := (dC, dI)) (ci := 7) (v := .int (gMW_pc (sMW_spent u (if (bI (f_X7_holds u a1)) = (0 : Int32) then 5 else 11 : Int32)))) (C := RX7) (T := TX7) (N := 30) hx hb hts iX7_three_X7 hown hK hP 0 rfl rfl 9 (by decide) (hts _ qX7_three_1) (fun _ h9 => h9) rfl dX7_three_91 ?_
          refine va_put (D := (dC, dI)) (ci := 7) (v := .int (gMW_pc (sMW_spent u (if (bI (f_X7_holds u a1)) = (0 : Int32) then 5 else 11 : Int32)))) (ty := .int) (C := RX7) (T := TX7) (N := 30) hx hb hts iX7_three_X7 tyX7 tyX7_ok nmX7 hown hK hP hD hS 0 rfl rfl 9 (by decide) (hts _ qX7_three_1) (fun _ h9 => h9) rfl (by decide +kernel) rfl rfl (Nat.le_of_ble_eq_true rfl) dX7_three_94 (fun H locs hP hD hS => ?_)
          obtain ⟨hP, hD⟩ := pM_pc hP hD
          refine lv_goto (tgt := 258) hx hb dX7_three_97 (by decide) ?_
          exact W.vret hx hb hr (fun t ht hW => ⟨⟨(sMW_pc (sMW_spent u (if (bI (f_X7_holds u a1)) = (0 : Int32) then 5 else 11 : Int32)) (gMW_pc (sMW_spent u (if (bI (f_X7_holds u a1)) = (0 : Int32) then 5 else 11 : Int32)))), rfl, (by simp only [f_X7_three, if_pos c2, if_pos c4]), by rw [ht]; exact hP, va_K.moved hW.alike hK, hD⟩, hS.F ht⟩) hS.2.2 dX7_three_258
        · skip
          refine lv_aload_n hx hb dX7_three_83 rfl (lv_at hl 0 rfl) ?_
          obtain ⟨hPc, hDc, hFc⟩ := xM_M hP hD hS hA
          have hKc := hK.sub (tys' := [(cI, .int)]) [0] rfl
          refine va_calli (va_runV (As := []) (rest := [.ref mO]) ⟨hx, hb, hml, hown, hts⟩ (k_X7_pop l dC dI cI mO memA dskA rgA inA outA H.size (sMW_spent u (if (bI (f_X7_holds u a1)) = (0 : Int32) then 5 else 11 : Int32))) (cwV 0 hts gX7_three_X7_pop rfl rfl rfl (by decide +kernel) ⟨Nat.le_of_ble_eq_true rfl, Nat.le_of_ble_eq_true rfl⟩) ⟨fun a U g mk q => by obtain ⟨q0, q1, qP, qK, qD⟩ := q; exact ⟨q0, q1, qP, va_K.moved (u := U) (U := U.calling g mk a) (Vm.Alike.refl U.vm) qK, qD⟩, va_recv hKc hPc (ci := 7) (q0 := 0) rfl rfl, fun U hU hW => ⟨rfl, by rw [hU], by rw [hU]; exact hPc, va_K.moved hW.alike hKc, hDc.weaken (fun _ _ _ _ => trivial)⟩⟩ rfl rfl hl.1 rfl (lv_room (Nat.le_of_ble_eq_true rfl)) dX7_three_84 ⟨Nat.le_of_ble_eq_true rfl, Nat.le_of_ble_eq_true rfl⟩) hS (fun q _ h => hFc q h) hFc (fun r9 u9 t H1 locs ht hvm hw hB hz1 hk1 hS => ?_)
          obtain ⟨rfl, rfl⟩ := hw
          obtain ⟨hP1, hK1, hD1⟩ := hB
          rw [ht] at hP1
          obtain ⟨hP, hD⟩ := jM_M hP hD hk1 hFc hP1 hD1
          clear hPc hDc hKc hFc hz1 hk1 hP1 hK1 hD1 ht hvm
          generalize H1 = H at hP hS ⊢
          refine lv_goto (tgt := 94) hx hb dX7_three_87 (by decide) ?_
          refine va_put (D := (dC, dI)) (ci := 7) (v := .int (f_X7_pop (sMW_spent u (if (bI (f_X7_holds u a1)) = (0 : Int32) then 5 else 11 : Int32))).1) (ty := .int) (C := RX7) (T := TX7) (N := 30) hx hb hts iX7_three_X7 tyX7 tyX7_ok nmX7 hown hK hP hD hS 0 rfl rfl 9 (by decide) (hts _ qX7_three_1) (fun _ h9 => h9) rfl (by decide +kernel) rfl rfl (Nat.le_of_ble_eq_true rfl) dX7_three_94 (fun H locs hP hD hS => ?_)
          obtain ⟨hP, hD⟩ := pM_pc hP hD
          refine lv_goto (tgt := 258) hx hb dX7_three_97 (by decide) ?_
          exact W.vret hx hb hr (fun t ht hW => ⟨⟨(sMW_pc (f_X7_pop (sMW_spent u (if (bI (f_X7_holds u a1)) = (0 : Int32) then 5 else 11 : Int32))).2 (f_X7_pop (sMW_spent u (if (bI (f_X7_holds u a1)) = (0 : Int32) then 5 else 11 : Int32))).1), rfl, (by simp only [f_X7_three, if_pos c2, if_neg c4]), by rw [ht]; exact hP, va_K.moved hW.alike hK, hD⟩, hS.F ht⟩) hS.2.2 dX7_three_258
      · skip
        refine lv_if_eq (tgt := 70) hx hb dX7_three_62 (by decide) (fun c5 => ?_) (fun c5 => ?_)
        · skip
          refine lv_iconst (v := 5) hx hb dX7_three_70 (by decide) ?_
          exact hJ3 5 _ _ _ (by simp only [if_pos c5]) hP hS (lv_sub hl [1, 2, 3, 0] rfl)
        · skip
          refine lv_bipush (v := 11) hx hb dX7_three_65 (by decide) ?_
          refine lv_goto (tgt := 71) hx hb dX7_three_67 (by decide) ?_
          exact hJ3 11 _ _ _ (by simp only [if_neg c5]) hP hS (lv_sub hl [1, 2, 3, 0] rfl)
    · skip
      by_cases c6 : a2 = 1
      · refine tb_in (k := 1) (off := 86) (tgt := 100) hx hb dX7_three_14 c6 (by decide) (by decide) (by decide) (by decide) ?_
        refine lv_aload_n hx hb dX7_three_100 rfl (lv_at hl 1 rfl) ?_
        refine lv_iload_n hx hb dX7_three_101 rfl (lv_at hl 2 rfl) ?_
        obtain ⟨hPc, hDc, hFc⟩ := xM_M hP hD hS hA
        have hKc := hK.sub (tys' := [(cI, .int)]) [0] rfl
        refine va_callv (va_runV (As := [.int a1]) (rest := []) ⟨hx, hb, hml, hown, hts⟩ (k_X7_single l dC dI cI mO memA dskA rgA inA outA H.size u a1 h1) (cwV 1 hts gX7_three_X7_single rfl rfl rfl (by decide +kernel) ⟨Nat.le_of_ble_eq_true rfl, Nat.le_of_ble_eq_true rfl⟩) ⟨fun a U g mk q => by obtain ⟨q0, q1, qP, qK, qD⟩ := q; exact ⟨q0, q1, qP, va_K.moved (u := U) (U := U.calling g mk a) (Vm.Alike.refl U.vm) qK, qD⟩, va_recv hKc hPc (ci := 7) (q0 := 0) rfl rfl, fun U hU hW => ⟨rfl, by rw [hU], by rw [hU]; exact hPc, va_K.moved hW.alike hKc, hDc.weaken (fun _ _ _ _ => trivial)⟩⟩ rfl rfl hl.1 rfl (lv_room (Nat.le_of_ble_eq_true rfl)) dX7_three_102 ⟨Nat.le_of_ble_eq_true rfl, Nat.le_of_ble_eq_true rfl⟩) hS (fun q _ h => hFc q h) hFc (fun u9 t H1 locs ht hvm hw hB hz1 hk1 hS => ?_)
        subst hw
        obtain ⟨hP1, hK1, hD1⟩ := hB
        rw [ht] at hP1
        obtain ⟨hP, hD⟩ := jM_M hP hD hk1 hFc hP1 hD1
        clear hPc hDc hKc hFc hz1 hk1 hP1 hK1 hD1 ht hvm
        generalize H1 = H at hP hS ⊢
        refine lv_goto (tgt := 258) hx hb dX7_three_105 (by decide) ?_
        exact W.vret hx hb hr (fun t ht hW => ⟨⟨(f_X7_single u a1), rfl, (by simp only [f_X7_three, if_neg c2, if_pos c6]), by rw [ht]; exact hP, va_K.moved hW.alike hK, hD⟩, hS.F ht⟩) hS.2.2 dX7_three_258
      · skip
        by_cases c7 : a2 = 2
        · refine tb_in (k := 2) (off := 94) (tgt := 108) hx hb dX7_three_14 c7 (by decide) (by decide) (by decide) (by decide) ?_
          refine lv_aload_n hx hb dX7_three_108 rfl (lv_at hl 1 rfl) ?_
          refine lv_aload_n hx hb dX7_three_109 rfl (lv_at hl 1 rfl) ?_
          refine lv_iload_n hx hb dX7_three_110 rfl (lv_at hl 2 rfl) ?_
          obtain ⟨hPc, hDc, hFc⟩ := xM_M hP hD hS hA
          have hKc := hK.sub (tys' := [(cI, .int)]) [0] rfl
          refine va_calli (va_runV (As := [.int a1]) (rest := [.ref mO]) ⟨hx, hb, hml, hown, hts⟩ (k_X7_holds l dC dI cI mO memA dskA rgA inA outA H.size u a1) (cwV 1 hts gX7_three_X7_holds rfl rfl rfl (by decide +kernel) ⟨Nat.le_of_ble_eq_true rfl, Nat.le_of_ble_eq_true rfl⟩) ⟨fun a U g mk q => by obtain ⟨q0, q1, qP, qK, qD⟩ := q; exact ⟨q0, q1, qP, va_K.moved (u := U) (U := U.calling g mk a) (Vm.Alike.refl U.vm) qK, qD⟩, va_recv hKc hPc (ci := 7) (q0 := 0) rfl rfl, fun U hU hW => ⟨rfl, by rw [hU], by rw [hU]; exact hPc, va_K.moved hW.alike hKc, hDc.weaken (fun _ _ _ _ => trivial)⟩⟩ rfl rfl hl.1 rfl (lv_room (Nat.le_of_ble_eq_true rfl)) dX7_three_111 ⟨Nat.le_of_ble_eq_true rfl, Nat.le_of_ble_eq_true rfl⟩) hS (fun q _ h => hFc q h) hFc (fun r9 u9 t H1 locs ht hvm hw hB hz1 hk1 hS => ?_)
          obtain ⟨hw1, hw2⟩ := hw
          have hw2 := hw2.symm
          subst hw1 hw2
          obtain ⟨hP1, hK1, hD1⟩ := hB
          rw [ht] at hP1
          obtain ⟨hP, hD⟩ := jM_M0 hP hD hk1 hFc hP1 hD1
          clear hPc hDc hKc hFc hz1 hk1 hP1 hK1 hD1 ht hvm
          generalize H1 = H at hP hS ⊢
          refine lv_iconst (v := 0) hx hb dX7_three_114 (by decide) ?_
          refine lv_bipush (v := 10) hx hb dX7_three_115 (by decide) ?_
          obtain ⟨hPc, hDc, hFc⟩ := xM_M hP hD hS hA
          have hKc := hK.sub (tys' := [(cI, .int)]) [0] rfl
          refine va_callv (va_runV (As := [.int (bI (f_X7_holds u a1)), .int (bI false), .int 10]) (rest := []) ⟨hx, hb, hml, hown, hts⟩ (k_X7_jumpTo l dC dI cI mO memA dskA rgA inA outA H.size u (f_X7_holds u a1) false 10) (cwV 3 hts gX7_three_X7_jumpTo rfl rfl rfl (by decide +kernel) ⟨Nat.le_of_ble_eq_true rfl, Nat.le_of_ble_eq_true rfl⟩) ⟨fun a U g mk q => by obtain ⟨q0, q1, qP, qK, qD⟩ := q; exact ⟨q0, q1, qP, va_K.moved (u := U) (U := U.calling g mk a) (Vm.Alike.refl U.vm) qK, qD⟩, va_recv hKc hPc (ci := 7) (q0 := 0) rfl rfl, fun U hU hW => ⟨rfl, by rw [hU], by rw [hU]; exact hPc, va_K.moved hW.alike hKc, hDc.weaken (fun _ _ _ _ => trivial)⟩⟩ rfl rfl hl.1 rfl (lv_room (Nat.le_of_ble_eq_true rfl)) dX7_three_117 ⟨Nat.le_of_ble_eq_true rfl, Nat.le_of_ble_eq_true rfl⟩) hS (fun q _ h => hFc q h) hFc (fun u9 t H1 locs ht hvm hw hB hz1 hk1 hS => ?_)
          subst hw
          obtain ⟨hP1, hK1, hD1⟩ := hB
          rw [ht] at hP1
          obtain ⟨hP, hD⟩ := jM_M hP hD hk1 hFc hP1 hD1
          clear hPc hDc hKc hFc hz1 hk1 hP1 hK1 hD1 ht hvm
          generalize H1 = H at hP hS ⊢
          refine lv_goto (tgt := 258) hx hb dX7_three_120 (by decide) ?_
          exact W.vret hx hb hr (fun t ht hW => ⟨⟨(f_X7_jumpTo u (f_X7_holds u a1) false 10), rfl, (by simp only [f_X7_three, if_neg c2, if_neg c6, if_pos c7]), by rw [ht]; exact hP, va_K.moved hW.alike hK, hD⟩, hS.F ht⟩) hS.2.2 dX7_three_258
        · skip
          by_cases c8 : a2 = 3
          · refine tb_in (k := 3) (off := 109) (tgt := 123) hx hb dX7_three_14 c8 (by decide) (by decide) (by decide) (by decide) ?_
            refine lv_aload_n hx hb dX7_three_123 rfl (lv_at hl 1 rfl) ?_
            refine lv_iload_n hx hb dX7_three_124 rfl (lv_at hl 2 rfl) ?_
            obtain ⟨hPc, hDc, hFc⟩ := xM_M hP hD hS hA
            have hKc := hK.sub (tys' := [(cI, .int)]) [0] rfl
            refine va_callv (va_runV (As := [.int a1]) (rest := []) ⟨hx, hb, hml, hown, hts⟩ (k_X7_special l dC dI cI mO memA dskA rgA inA outA H.size u a1 h1 hI hO) (cwV 1 hts gX7_three_X7_special rfl rfl rfl (by decide +kernel) ⟨Nat.le_of_ble_eq_true rfl, Nat.le_of_ble_eq_true rfl⟩) ⟨fun a U g mk q => by obtain ⟨q0, q1, qP, qK, qD⟩ := q; exact ⟨q0, q1, qP, va_K.moved (u := U) (U := U.calling g mk a) (Vm.Alike.refl U.vm) qK, qD⟩, va_recv hKc hPc (ci := 7) (q0 := 0) rfl rfl, fun U hU hW => ⟨rfl, by rw [hU], by rw [hU]; exact hPc, va_K.moved hW.alike hKc, hDc.weaken (fun _ _ _ _ => trivial)⟩⟩ rfl rfl hl.1 rfl (lv_room (Nat.le_of_ble_eq_true rfl)) dX7_three_125 ⟨Nat.le_of_ble_eq_true rfl, Nat.le_of_ble_eq_true rfl⟩) hS (fun q _ h => hFc q h) hFc (fun u9 t H1 locs ht hvm hw hB hz1 hk1 hS => ?_)
            subst hw
            obtain ⟨hP1, hK1, hD1⟩ := hB
            rw [ht] at hP1
            obtain ⟨hP, hD⟩ := jM_M hP hD hk1 hFc hP1 hD1
            clear hPc hDc hKc hFc hz1 hk1 hP1 hK1 hD1 ht hvm
            generalize H1 = H at hP hS ⊢
            refine lv_goto (tgt := 258) hx hb dX7_three_128 (by decide) ?_
            exact W.vret hx hb hr (fun t ht hW => ⟨⟨(f_X7_special u a1), rfl, (by simp only [f_X7_three, if_neg c2, if_neg c6, if_neg c7, if_pos c8]), by rw [ht]; exact hP, va_K.moved hW.alike hK, hD⟩, hS.F ht⟩) hS.2.2 dX7_three_258
          · skip
            by_cases c9 : a2 = 4
            · refine tb_in (k := 4) (off := 117) (tgt := 131) hx hb dX7_three_14 c9 (by decide) (by decide) (by decide) (by decide) ?_
              refine lv_aload_n hx hb dX7_three_131 rfl (lv_at hl 1 rfl) ?_
              refine lv_aload_n hx hb dX7_three_132 rfl (lv_at hl 1 rfl) ?_
              refine lv_iload_n hx hb dX7_three_133 rfl (lv_at hl 2 rfl) ?_
              obtain ⟨hPc, hDc, hFc⟩ := xM_M hP hD hS hA
              have hKc := hK.sub (tys' := [(cI, .int)]) [0] rfl
              refine va_calli (va_runV (As := [.int a1]) (rest := [.ref mO]) ⟨hx, hb, hml, hown, hts⟩ (k_X7_holds l dC dI cI mO memA dskA rgA inA outA H.size u a1) (cwV 1 hts gX7_three_X7_holds rfl rfl rfl (by decide +kernel) ⟨Nat.le_of_ble_eq_true rfl, Nat.le_of_ble_eq_true rfl⟩) ⟨fun a U g mk q => by obtain ⟨q0, q1, qP, qK, qD⟩ := q; exact ⟨q0, q1, qP, va_K.moved (u := U) (U := U.calling g mk a) (Vm.Alike.refl U.vm) qK, qD⟩, va_recv hKc hPc (ci := 7) (q0 := 0) rfl rfl, fun U hU hW => ⟨rfl, by rw [hU], by rw [hU]; exact hPc, va_K.moved hW.alike hKc, hDc.weaken (fun _ _ _ _ => trivial)⟩⟩ rfl rfl hl.1 rfl (lv_room (Nat.le_of_ble_eq_true rfl)) dX7_three_134 ⟨Nat.le_of_ble_eq_true rfl, Nat.le_of_ble_eq_true rfl⟩) hS (fun q _ h => hFc q h) hFc (fun r9 u9 t H1 locs ht hvm hw hB hz1 hk1 hS => ?_)
              obtain ⟨hw1, hw2⟩ := hw
              have hw2 := hw2.symm
              subst hw1 hw2
              obtain ⟨hP1, hK1, hD1⟩ := hB
              rw [ht] at hP1
              obtain ⟨hP, hD⟩ := jM_M0 hP hD hk1 hFc hP1 hD1
              clear hPc hDc hKc hFc hz1 hk1 hP1 hK1 hD1 ht hvm
              generalize H1 = H at hP hS ⊢
              refine lv_iconst (v := 1) hx hb dX7_three_137 (by decide) ?_
              refine lv_aload_n hx hb dX7_three_138 rfl (lv_at hl 1 rfl) ?_
              refine lv_iload_n hx hb dX7_three_139 rfl (lv_at hl 2 rfl) ?_
              obtain ⟨hPc, hDc, hFc⟩ := xM_M hP hD hS hA
              have hKc := hK.sub (tys' := [(cI, .int)]) [0] rfl
              refine va_calli (va_runV (As := [.int a1]) (rest := [.int 1, .int (bI (f_X7_holds u a1)), .ref mO]) ⟨hx, hb, hml, hown, hts⟩ (k_X7_holds l dC dI cI mO memA dskA rgA inA outA H.size u a1) (cwV 1 hts gX7_three_X7_holds rfl rfl rfl (by decide +kernel) ⟨Nat.le_of_ble_eq_true rfl, Nat.le_of_ble_eq_true rfl⟩) ⟨fun a U g mk q => by obtain ⟨q0, q1, qP, qK, qD⟩ := q; exact ⟨q0, q1, qP, va_K.moved (u := U) (U := U.calling g mk a) (Vm.Alike.refl U.vm) qK, qD⟩, va_recv hKc hPc (ci := 7) (q0 := 0) rfl rfl, fun U hU hW => ⟨rfl, by rw [hU], by rw [hU]; exact hPc, va_K.moved hW.alike hKc, hDc.weaken (fun _ _ _ _ => trivial)⟩⟩ rfl rfl hl.1 rfl (lv_room (Nat.le_of_ble_eq_true rfl)) dX7_three_140 ⟨Nat.le_of_ble_eq_true rfl, Nat.le_of_ble_eq_true rfl⟩) hS (fun q _ h => hFc q h) hFc (fun r9 u9 t H1 locs ht hvm hw hB hz1 hk1 hS => ?_)
              obtain ⟨hw1, hw2⟩ := hw
              have hw2 := hw2.symm
              subst hw1 hw2
              obtain ⟨hP1, hK1, hD1⟩ := hB
              rw [ht] at hP1
              obtain ⟨hP, hD⟩ := jM_M0 hP hD hk1 hFc hP1 hD1
              clear hPc hDc hKc hFc hz1 hk1 hP1 hK1 hD1 ht hvm
              generalize H1 = H at hP hS ⊢
              refine jn_i (D := (dC, dI)) (cl := vwCl) (ws := (wM cI mO memA dskA rgA inA outA u)) (A := A) (H0 := s.heap) (nL := 4) 153 (if (bI (f_X7_holds u a1)) = (0 : Int32) then 11 else 17 : Int32) [(0, .ref mO), (1, .int a1), (2, .int a2), (3, .int (bI (if (a1 - a1 / (2 : Int32) * (2 : Int32)) = (1 : Int32) then true else false : Bool)))] [.int 1, .int (bI (f_X7_holds u a1)), .ref mO] (fun H locs ls hP hS hl => ?_) (fun hJ10 => ?_)
              · skip
                obtain ⟨hPc, hDc, hFc⟩ := xM_M hP hD hS hA
                have hKc := hK.sub (tys' := [(cI, .int)]) [0] rfl
                refine va_callv (va_runV (As := [.int (bI (f_X7_holds u a1)), .int (bI true), .int (if (bI (f_X7_holds u a1)) = (0 : Int32) then 11 else 17 : Int32)]) (rest := []) ⟨hx, hb, hml, hown, hts⟩ (k_X7_jumpTo l dC dI cI mO memA dskA rgA inA outA H.size u (f_X7_holds u a1) true (if (bI (f_X7_holds u a1)) = (0 : Int32) then 11 else 17 : Int32)) (cwV 3 hts gX7_three_X7_jumpTo rfl rfl rfl (by decide +kernel) ⟨Nat.le_of_ble_eq_true rfl, Nat.le_of_ble_eq_true rfl⟩) ⟨fun a U g mk q => by obtain ⟨q0, q1, qP, qK, qD⟩ := q; exact ⟨q0, q1, qP, va_K.moved (u := U) (U := U.calling g mk a) (Vm.Alike.refl U.vm) qK, qD⟩, va_recv hKc hPc (ci := 7) (q0 := 0) rfl rfl, fun U hU hW => ⟨rfl, by rw [hU], by rw [hU]; exact hPc, va_K.moved hW.alike hKc, hDc.weaken (fun _ _ _ _ => trivial)⟩⟩ rfl rfl hl.1 rfl (lv_room (Nat.le_of_ble_eq_true rfl)) dX7_three_153 ⟨Nat.le_of_ble_eq_true rfl, Nat.le_of_ble_eq_true rfl⟩) hS (fun q _ h => hFc q h) hFc (fun u9 t H1 locs ht hvm hw hB hz1 hk1 hS => ?_)
                subst hw
                obtain ⟨hP1, hK1, hD1⟩ := hB
                rw [ht] at hP1
                obtain ⟨hP, hD⟩ := jM_M hP hD hk1 hFc hP1 hD1
                clear hPc hDc hKc hFc hz1 hk1 hP1 hK1 hD1 ht hvm
                generalize H1 = H at hP hS ⊢
                refine lv_goto (tgt := 258) hx hb dX7_three_156 (by decide) ?_
                exact W.vret hx hb hr (fun t ht hW => ⟨⟨(f_X7_jumpTo u (f_X7_holds u a1) true (if (bI (f_X7_holds u a1)) = (0 : Int32) then 11 else 17 : Int32)), rfl, (by simp only [f_X7_three, if_neg c2, if_neg c6, if_neg c7, if_neg c8, if_pos c9]), by rw [ht]; exact hP, va_K.moved hW.alike hK, hD⟩, hS.F ht⟩) hS.2.2 dX7_three_258
              · skip
                refine lv_if_eq (tgt := 151) hx hb dX7_three_143 (by decide) (fun c11 => ?_) (fun c11 => ?_)
                · skip
                  refine lv_bipush (v := 11) hx hb dX7_three_151 (by decide) ?_
                  exact hJ10 11 _ _ _ (by simp only [if_pos c11]) hP hS (lv_sub hl [1, 2, 3, 0] rfl)
                · skip
                  refine lv_bipush (v := 17) hx hb dX7_three_146 (by decide) ?_
                  refine lv_goto (tgt := 153) hx hb dX7_three_148 (by decide) ?_
                  exact hJ10 17 _ _ _ (by simp only [if_neg c11]) hP hS (lv_sub hl [1, 2, 3, 0] rfl)
            · skip
              by_cases c12 : a2 = 5
              · refine tb_in (k := 5) (off := 145) (tgt := 159) hx hb dX7_three_14 c12 (by decide) (by decide) (by decide) (by decide) ?_
                refine lv_iload_n hx hb dX7_three_159 rfl (lv_at hl 0 rfl) ?_
                refine lv_if_eq (tgt := 174) hx hb dX7_three_160 (by decide) (fun c13 => ?_) (fun c13 => ?_)
                · skip
                  refine lv_aload_n hx hb dX7_three_174 rfl (lv_at hl 1 rfl) ?_
                  refine lv_bipush (v := 11) hx hb dX7_three_175 (by decide) ?_
                  refine va_put (D := (dC, dI)) (ci := 7) (v := .int 11) (ty := .int) (C := RX7) (T := TX7) (N := 30) hx hb hts iX7_three_X7 tyX7 tyX7_ok nmX7 hown hK hP hD hS 0 rfl rfl 16 (by decide) (hts _ qX7_three_0) (fun _ h9 => h9) rfl (by decide +kernel) rfl rfl (Nat.le_of_ble_eq_true rfl) dX7_three_177 (fun H locs hP hD hS => ?_)
                  obtain ⟨hP, hD⟩ := pM_spent hP hD
                  refine lv_aload_n hx hb dX7_three_180 rfl (lv_at hl 1 rfl) ?_
                  refine lv_iload_n hx hb dX7_three_181 rfl (lv_at hl 2 rfl) ?_
                  refine lv_bipush (v := 6) hx hb dX7_three_182 (by decide) ?_
                  refine jn_i (D := (dC, dI)) (cl := vwCl) (ws := (wM cI mO memA dskA rgA inA outA (sMW_spent u 11))) (A := A) (H0 := s.heap) (nL := 4) 212 (if a1 = (6 : Int32) then ((((gMW_r (sMW_spent u 11)) (7 : Int32).toNatClampNeg) <<< ((8 : Int32) &&& 31)) ||| (f_X7_flags (sMW_spent u 11))) else (f_X7_pair (sMW_spent u 11) (a1 / (2 : Int32))) : Int32) [(0, .ref mO), (1, .int a1), (2, .int a2), (3, .int (bI (if (a1 - a1 / (2 : Int32) * (2 : Int32)) = (1 : Int32) then true else false : Bool)))] [.ref mO] (fun H locs ls hP hS hl => ?_) (fun hJ14 => ?_)
                  · skip
                    obtain ⟨hPc, hDc, hFc⟩ := xM_M hP hD hS hA
                    have hKc := hK.sub (tys' := [(cI, .int)]) [0] rfl
                    refine va_callv (va_runV (As := [.int (if a1 = (6 : Int32) then ((((gMW_r (sMW_spent u 11)) (7 : Int32).toNatClampNeg) <<< ((8 : Int32) &&& 31)) ||| (f_X7_flags (sMW_spent u 11))) else (f_X7_pair (sMW_spent u 11) (a1 / (2 : Int32))) : Int32)]) (rest := []) ⟨hx, hb, hml, hown, hts⟩ (k_X7_push l dC dI cI mO memA dskA rgA inA outA H.size (sMW_spent u 11) (if a1 = (6 : Int32) then ((((gMW_r (sMW_spent u 11)) (7 : Int32).toNatClampNeg) <<< ((8 : Int32) &&& 31)) ||| (f_X7_flags (sMW_spent u 11))) else (f_X7_pair (sMW_spent u 11) (a1 / (2 : Int32))) : Int32)) (cwV 1 hts gX7_three_X7_push rfl rfl rfl (by decide +kernel) ⟨Nat.le_of_ble_eq_true rfl, Nat.le_of_ble_eq_true rfl⟩) ⟨fun a U g mk q => by obtain ⟨q0, q1, qP, qK, qD⟩ := q; exact ⟨q0, q1, qP, va_K.moved (u := U) (U := U.calling g mk a) (Vm.Alike.refl U.vm) qK, qD⟩, va_recv hKc hPc (ci := 7) (q0 := 0) rfl rfl, fun U hU hW => ⟨rfl, by rw [hU], by rw [hU]; exact hPc, va_K.moved hW.alike hKc, hDc.weaken (fun _ _ _ _ => trivial)⟩⟩ rfl rfl hl.1 rfl (lv_room (Nat.le_of_ble_eq_true rfl)) dX7_three_212 ⟨Nat.le_of_ble_eq_true rfl, Nat.le_of_ble_eq_true rfl⟩) hS (fun q _ h => hFc q h) hFc (fun u9 t H1 locs ht hvm hw hB hz1 hk1 hS => ?_)
                    subst hw
                    obtain ⟨hP1, hK1, hD1⟩ := hB
                    rw [ht] at hP1
                    obtain ⟨hP, hD⟩ := jM_M hP hD hk1 hFc hP1 hD1
                    clear hPc hDc hKc hFc hz1 hk1 hP1 hK1 hD1 ht hvm
                    generalize H1 = H at hP hS ⊢
                    refine lv_goto (tgt := 258) hx hb dX7_three_215 (by decide) ?_
                    exact W.vret hx hb hr (fun t ht hW => ⟨⟨(f_X7_push (sMW_spent u 11) (if a1 = (6 : Int32) then ((((gMW_r (sMW_spent u 11)) (7 : Int32).toNatClampNeg) <<< ((8 : Int32) &&& 31)) ||| (f_X7_flags (sMW_spent u 11))) else (f_X7_pair (sMW_spent u 11) (a1 / (2 : Int32))) : Int32)), rfl, (by simp only [f_X7_three, if_neg c2, if_neg c6, if_neg c7, if_neg c8, if_neg c9, if_pos c12, if_pos c13]), by rw [ht]; exact hP, va_K.moved hW.alike hK, hD⟩, hS.F ht⟩) hS.2.2 dX7_three_258
                  · skip
                    refine lv_icmp_ne (tgt := 205) hx hb dX7_three_184 (by decide) (fun c15 => ?_) (fun c15 => ?_)
                    · skip
                      refine lv_aload_n hx hb dX7_three_205 rfl (lv_at hl 1 rfl) ?_
                      refine lv_iload_n hx hb dX7_three_206 rfl (lv_at hl 2 rfl) ?_
                      refine lv_iconst (v := 2) hx hb dX7_three_207 (by decide) ?_
                      refine lv_idiv hx hb dX7_three_208 (by decide) ?_
                      obtain ⟨hPc, hDc, hFc⟩ := xM_M hP hD hS hA
                      have hKc := hK.sub (tys' := [(cI, .int)]) [0] rfl
                      refine va_calli (va_runV (As := [.int (a1 / (2 : Int32))]) (rest := [.ref mO]) ⟨hx, hb, hml, hown, hts⟩ (k_X7_pair l dC dI cI mO memA dskA rgA inA outA H.size (sMW_spent u 11) (a1 / (2 : Int32)) (in_div2 h1)) (cwV 1 hts gX7_three_X7_pair rfl rfl rfl (by decide +kernel) ⟨Nat.le_of_ble_eq_true rfl, Nat.le_of_ble_eq_true rfl⟩) ⟨fun a U g mk q => by obtain ⟨q0, q1, qP, qK, qD⟩ := q; exact ⟨q0, q1, qP, va_K.moved (u := U) (U := U.calling g mk a) (Vm.Alike.refl U.vm) qK, qD⟩, va_recv hKc hPc (ci := 7) (q0 := 0) rfl rfl, fun U hU hW => ⟨rfl, by rw [hU], by rw [hU]; exact hPc, va_K.moved hW.alike hKc, hDc.weaken (fun _ _ _ _ => trivial)⟩⟩ rfl rfl hl.1 rfl (lv_room (Nat.le_of_ble_eq_true rfl)) dX7_three_209 ⟨Nat.le_of_ble_eq_true rfl, Nat.le_of_ble_eq_true rfl⟩) hS (fun q _ h => hFc q h) hFc (fun r9 u9 t H1 locs ht hvm hw hB hz1 hk1 hS => ?_)
                      obtain ⟨hw1, hw2⟩ := hw
                      have hw2 := hw2.symm
                      subst hw1 hw2
                      obtain ⟨hP1, hK1, hD1⟩ := hB
                      rw [ht] at hP1
                      obtain ⟨hP, hD⟩ := jM_M0 hP hD hk1 hFc hP1 hD1
                      clear hPc hDc hKc hFc hz1 hk1 hP1 hK1 hD1 ht hvm
                      generalize H1 = H at hP hS ⊢
                      exact hJ14 (f_X7_pair (sMW_spent u 11) (a1 / (2 : Int32))) _ _ _ (by simp only [if_neg c15]) hP hS (lv_sub hl [1, 2, 3, 0] rfl)
                    · skip
                      refine lv_aload_n hx hb dX7_three_187 rfl (lv_at hl 1 rfl) ?_
                      refine va_get (D := (dC, dI)) (ci := 7) (v := .ref rgA) (C := RX7) (T := TX7) (N := 30) hx hb hts iX7_three_X7 hown hK hP 0 rfl rfl 3 (by decide) (hts _ qX7_three_2) (fun _ h9 => h9) rfl dX7_three_188 ?_
                      refine lv_bipush (v := 7) hx hb dX7_three_191 (by decide) ?_
                      refine va_iald (f := (gMW_r (sMW_spent u 11))) hx hb hK hP 3 0 rfl rfl (ix_lit (by decide)) dX7_three_193 ?_
                      refine lv_bipush (v := 8) hx hb dX7_three_194 (by decide) ?_
                      refine lv_ishl hx hb dX7_three_196 ?_
                      refine lv_aload_n hx hb dX7_three_197 rfl (lv_at hl 1 rfl) ?_
                      obtain ⟨hPc, hDc, hFc⟩ := xM_M hP hD hS hA
                      have hKc := hK.sub (tys' := [(cI, .int)]) [0] rfl
                      refine va_calli (va_runV (As := []) (rest := [.int (((gMW_r (sMW_spent u 11)) (7 : Int32).toNatClampNeg) <<< ((8 : Int32) &&& 31)), .ref mO]) ⟨hx, hb, hml, hown, hts⟩ (k_X7_flags l dC dI cI mO memA dskA rgA inA outA H.size (sMW_spent u 11)) (cwV 0 hts gX7_three_X7_flags rfl rfl rfl (by decide +kernel) ⟨Nat.le_of_ble_eq_true rfl, Nat.le_of_ble_eq_true rfl⟩) ⟨fun a U g mk q => by obtain ⟨q0, q1, qP, qK, qD⟩ := q; exact ⟨q0, q1, qP, va_K.moved (u := U) (U := U.calling g mk a) (Vm.Alike.refl U.vm) qK, qD⟩, va_recv hKc hPc (ci := 7) (q0 := 0) rfl rfl, fun U hU hW => ⟨rfl, by rw [hU], by rw [hU]; exact hPc, va_K.moved hW.alike hKc, hDc.weaken (fun _ _ _ _ => trivial)⟩⟩ rfl rfl hl.1 rfl (lv_room (Nat.le_of_ble_eq_true rfl)) dX7_three_198 ⟨Nat.le_of_ble_eq_true rfl, Nat.le_of_ble_eq_true rfl⟩) hS (fun q _ h => hFc q h) hFc (fun r9 u9 t H1 locs ht hvm hw hB hz1 hk1 hS => ?_)
                      obtain ⟨hw1, hw2⟩ := hw
                      have hw2 := hw2.symm
                      subst hw1 hw2
                      obtain ⟨hP1, hK1, hD1⟩ := hB
                      rw [ht] at hP1
                      obtain ⟨hP, hD⟩ := jM_M0 hP hD hk1 hFc hP1 hD1
                      clear hPc hDc hKc hFc hz1 hk1 hP1 hK1 hD1 ht hvm
                      generalize H1 = H at hP hS ⊢
                      refine lv_ior hx hb dX7_three_201 ?_
                      refine lv_goto (tgt := 212) hx hb dX7_three_202 (by decide) ?_
                      exact hJ14 ((((gMW_r (sMW_spent u 11)) (7 : Int32).toNatClampNeg) <<< ((8 : Int32) &&& 31)) ||| (f_X7_flags (sMW_spent u 11))) _ _ _ (by simp only [if_pos c15]) hP hS (lv_sub hl [1, 2, 3, 0] rfl)
                · skip
                  refine lv_aload_n hx hb dX7_three_163 rfl (lv_at hl 1 rfl) ?_
                  refine lv_iconst (v := 1) hx hb dX7_three_164 (by decide) ?_
                  refine lv_iconst (v := 1) hx hb dX7_three_165 (by decide) ?_
                  refine lv_bipush (v := 17) hx hb dX7_three_166 (by decide) ?_
                  obtain ⟨hPc, hDc, hFc⟩ := xM_M hP hD hS hA
                  have hKc := hK.sub (tys' := [(cI, .int)]) [0] rfl
                  refine va_callv (va_runV (As := [.int (bI true), .int (bI true), .int 17]) (rest := []) ⟨hx, hb, hml, hown, hts⟩ (k_X7_jumpTo l dC dI cI mO memA dskA rgA inA outA H.size u true true 17) (cwV 3 hts gX7_three_X7_jumpTo rfl rfl rfl (by decide +kernel) ⟨Nat.le_of_ble_eq_true rfl, Nat.le_of_ble_eq_true rfl⟩) ⟨fun a U g mk q => by obtain ⟨q0, q1, qP, qK, qD⟩ := q; exact ⟨q0, q1, qP, va_K.moved (u := U) (U := U.calling g mk a) (Vm.Alike.refl U.vm) qK, qD⟩, va_recv hKc hPc (ci := 7) (q0 := 0) rfl rfl, fun U hU hW => ⟨rfl, by rw [hU], by rw [hU]; exact hPc, va_K.moved hW.alike hKc, hDc.weaken (fun _ _ _ _ => trivial)⟩⟩ rfl rfl hl.1 rfl (lv_room (Nat.le_of_ble_eq_true rfl)) dX7_three_168 ⟨Nat.le_of_ble_eq_true rfl, Nat.le_of_ble_eq_true rfl⟩) hS (fun q _ h => hFc q h) hFc (fun u9 t H1 locs ht hvm hw hB hz1 hk1 hS => ?_)
                  subst hw
                  obtain ⟨hP1, hK1, hD1⟩ := hB
                  rw [ht] at hP1
                  obtain ⟨hP, hD⟩ := jM_M hP hD hk1 hFc hP1 hD1
                  clear hPc hDc hKc hFc hz1 hk1 hP1 hK1 hD1 ht hvm
                  generalize H1 = H at hP hS ⊢
                  refine lv_goto (tgt := 258) hx hb dX7_three_171 (by decide) ?_
                  exact W.vret hx hb hr (fun t ht hW => ⟨⟨(f_X7_jumpTo u true true 17), rfl, (by simp only [f_X7_three, if_neg c2, if_neg c6, if_neg c7, if_neg c8, if_neg c9, if_pos c12, if_neg c13]), by rw [ht]; exact hP, va_K.moved hW.alike hK, hD⟩, hS.F ht⟩) hS.2.2 dX7_three_258
              · skip
                by_cases c16 : a2 = 6
                · refine tb_in (k := 6) (off := 204) (tgt := 218) hx hb dX7_three_14 c16 (by decide) (by decide) (by decide) (by decide) ?_
                  refine lv_aload_n hx hb dX7_three_218 rfl (lv_at hl 1 rfl) ?_
                  refine lv_bipush (v := 7) hx hb dX7_three_219 (by decide) ?_
                  refine va_put (D := (dC, dI)) (ci := 7) (v := .int 7) (ty := .int) (C := RX7) (T := TX7) (N := 30) hx hb hts iX7_three_X7 tyX7 tyX7_ok nmX7 hown hK hP hD hS 0 rfl rfl 16 (by decide) (hts _ qX7_three_0) (fun _ h9 => h9) rfl (by decide +kernel) rfl rfl (Nat.le_of_ble_eq_true rfl) dX7_three_221 (fun H locs hP hD hS => ?_)
                  obtain ⟨hP, hD⟩ := pM_spent hP hD
                  refine lv_aload_n hx hb dX7_three_224 rfl (lv_at hl 1 rfl) ?_
                  refine lv_iload_n hx hb dX7_three_225 rfl (lv_at hl 2 rfl) ?_
                  refine lv_aload_n hx hb dX7_three_226 rfl (lv_at hl 1 rfl) ?_
                  obtain ⟨hPc, hDc, hFc⟩ := xM_M hP hD hS hA
                  have hKc := hK.sub (tys' := [(cI, .int)]) [0] rfl
                  refine va_calli (va_runV (As := []) (rest := [.int a1, .ref mO]) ⟨hx, hb, hml, hown, hts⟩ (k_X7_next l dC dI cI mO memA dskA rgA inA outA H.size (sMW_spent u 7)) (cwV 0 hts gX7_three_X7_next rfl rfl rfl (by decide +kernel) ⟨Nat.le_of_ble_eq_true rfl, Nat.le_of_ble_eq_true rfl⟩) ⟨fun a U g mk q => by obtain ⟨q0, q1, qP, qK, qD⟩ := q; exact ⟨q0, q1, qP, va_K.moved (u := U) (U := U.calling g mk a) (Vm.Alike.refl U.vm) qK, qD⟩, va_recv hKc hPc (ci := 7) (q0 := 0) rfl rfl, fun U hU hW => ⟨rfl, by rw [hU], by rw [hU]; exact hPc, va_K.moved hW.alike hKc, hDc.weaken (fun _ _ _ _ => trivial)⟩⟩ rfl rfl hl.1 rfl (lv_room (Nat.le_of_ble_eq_true rfl)) dX7_three_227 ⟨Nat.le_of_ble_eq_true rfl, Nat.le_of_ble_eq_true rfl⟩) hS (fun q _ h => hFc q h) hFc (fun r9 u9 t H1 locs ht hvm hw hB hz1 hk1 hS => ?_)
                  obtain ⟨rfl, rfl⟩ := hw
                  obtain ⟨hP1, hK1, hD1⟩ := hB
                  rw [ht] at hP1
                  obtain ⟨hP, hD⟩ := jM_M hP hD hk1 hFc hP1 hD1
                  clear hPc hDc hKc hFc hz1 hk1 hP1 hK1 hD1 ht hvm
                  generalize H1 = H at hP hS ⊢
                  obtain ⟨hPc, hDc, hFc⟩ := xM_M hP hD hS hA
                  have hKc := hK.sub (tys' := [(cI, .int)]) [0] rfl
                  refine va_callv (va_runV (As := [.int a1, .int (f_X7_next (sMW_spent u 7)).1]) (rest := []) ⟨hx, hb, hml, hown, hts⟩ (k_X7_reckon l dC dI cI mO memA dskA rgA inA outA H.size (f_X7_next (sMW_spent u 7)).2 a1 (f_X7_next (sMW_spent u 7)).1) (cwV 2 hts gX7_three_X7_reckon rfl rfl rfl (by decide +kernel) ⟨Nat.le_of_ble_eq_true rfl, Nat.le_of_ble_eq_true rfl⟩) ⟨fun a U g mk q => by obtain ⟨q0, q1, qP, qK, qD⟩ := q; exact ⟨q0, q1, qP, va_K.moved (u := U) (U := U.calling g mk a) (Vm.Alike.refl U.vm) qK, qD⟩, va_recv hKc hPc (ci := 7) (q0 := 0) rfl rfl, fun U hU hW => ⟨rfl, by rw [hU], by rw [hU]; exact hPc, va_K.moved hW.alike hKc, hDc.weaken (fun _ _ _ _ => trivial)⟩⟩ rfl rfl hl.1 rfl (lv_room (Nat.le_of_ble_eq_true rfl)) dX7_three_230 ⟨Nat.le_of_ble_eq_true rfl, Nat.le_of_ble_eq_true rfl⟩) hS (fun q _ h => hFc q h) hFc (fun u9 t H1 locs ht hvm hw hB hz1 hk1 hS => ?_)
                  subst hw
                  obtain ⟨hP1, hK1, hD1⟩ := hB
                  rw [ht] at hP1
                  obtain ⟨hP, hD⟩ := jM_M hP hD hk1 hFc hP1 hD1
                  clear hPc hDc hKc hFc hz1 hk1 hP1 hK1 hD1 ht hvm
                  generalize H1 = H at hP hS ⊢
                  refine lv_goto (tgt := 258) hx hb dX7_three_233 (by decide) ?_
                  exact W.vret hx hb hr (fun t ht hW => ⟨⟨(f_X7_reckon (f_X7_next (sMW_spent u 7)).2 a1 (f_X7_next (sMW_spent u 7)).1), rfl, (by simp only [f_X7_three, if_neg c2, if_neg c6, if_neg c7, if_neg c8, if_neg c9, if_neg c12, if_pos c16]), by rw [ht]; exact hP, va_K.moved hW.alike hK, hD⟩, hS.F ht⟩) hS.2.2 dX7_three_258
                · skip
                  refine lv_tableOut (tgt := 236) hx hb dX7_three_14 (by have r0 := lv_neT c2 (a := 0) (by decide); have r1 := lv_neT c6 (a := 1) (by decide); have r2 := lv_neT c7 (a := 2) (by decide); have r3 := lv_neT c8 (a := 3) (by decide); have r4 := lv_neT c9 (a := 4) (by decide); have r5 := lv_neT c12 (a := 5) (by decide); have r6 := lv_neT c16 (a := 6) (by decide); omega) (by decide) ?_
                  refine lv_aload_n hx hb dX7_three_236 rfl (lv_at hl 1 rfl) ?_
                  refine lv_bipush (v := 11) hx hb dX7_three_237 (by decide) ?_
                  refine va_put (D := (dC, dI)) (ci := 7) (v := .int 11) (ty := .int) (C := RX7) (T := TX7) (N := 30) hx hb hts iX7_three_X7 tyX7 tyX7_ok nmX7 hown hK hP hD hS 0 rfl rfl 16 (by decide) (hts _ qX7_three_0) (fun _ h9 => h9) rfl (by decide +kernel) rfl rfl (Nat.le_of_ble_eq_true rfl) dX7_three_239 (fun H locs hP hD hS => ?_)
                  obtain ⟨hP, hD⟩ := pM_spent hP hD
                  refine lv_aload_n hx hb dX7_three_242 rfl (lv_at hl 1 rfl) ?_
                  refine lv_aload_n hx hb dX7_three_243 rfl (lv_at hl 1 rfl) ?_
                  refine va_get (D := (dC, dI)) (ci := 7) (v := .int (gMW_pc (sMW_spent u 11))) (C := RX7) (T := TX7) (N := 30) hx hb hts iX7_three_X7 hown hK hP 0 rfl rfl 9 (by decide) (hts _ qX7_three_1) (fun _ h9 => h9) rfl dX7_three_244 ?_
                  obtain ⟨hPc, hDc, hFc⟩ := xM_M hP hD hS hA
                  have hKc := hK.sub (tys' := [(cI, .int)]) [0] rfl
                  refine va_callv (va_runV (As := [.int (gMW_pc (sMW_spent u 11))]) (rest := []) ⟨hx, hb, hml, hown, hts⟩ (k_X7_push l dC dI cI mO memA dskA rgA inA outA H.size (sMW_spent u 11) (gMW_pc (sMW_spent u 11))) (cwV 1 hts gX7_three_X7_push rfl rfl rfl (by decide +kernel) ⟨Nat.le_of_ble_eq_true rfl, Nat.le_of_ble_eq_true rfl⟩) ⟨fun a U g mk q => by obtain ⟨q0, q1, qP, qK, qD⟩ := q; exact ⟨q0, q1, qP, va_K.moved (u := U) (U := U.calling g mk a) (Vm.Alike.refl U.vm) qK, qD⟩, va_recv hKc hPc (ci := 7) (q0 := 0) rfl rfl, fun U hU hW => ⟨rfl, by rw [hU], by rw [hU]; exact hPc, va_K.moved hW.alike hKc, hDc.weaken (fun _ _ _ _ => trivial)⟩⟩ rfl rfl hl.1 rfl (lv_room (Nat.le_of_ble_eq_true rfl)) dX7_three_247 ⟨Nat.le_of_ble_eq_true rfl, Nat.le_of_ble_eq_true rfl⟩) hS (fun q _ h => hFc q h) hFc (fun u9 t H1 locs ht hvm hw hB hz1 hk1 hS => ?_)
                  subst hw
                  obtain ⟨hP1, hK1, hD1⟩ := hB
                  rw [ht] at hP1
                  obtain ⟨hP, hD⟩ := jM_M hP hD hk1 hFc hP1 hD1
                  clear hPc hDc hKc hFc hz1 hk1 hP1 hK1 hD1 ht hvm
                  generalize H1 = H at hP hS ⊢
                  refine lv_aload_n hx hb dX7_three_250 rfl (lv_at hl 1 rfl) ?_
                  refine lv_bipush (v := 8) hx hb dX7_three_251 (by decide) ?_
                  refine lv_iload_n hx hb dX7_three_253 rfl (lv_at hl 2 rfl) ?_
                  refine lv_imul hx hb dX7_three_254 ?_
                  refine va_put (D := (dC, dI)) (ci := 7) (v := .int ((8 : Int32) * a1)) (ty := .int) (C := RX7) (T := TX7) (N := 30) hx hb hts iX7_three_X7 tyX7 tyX7_ok nmX7 hown hK hP hD hS 0 rfl rfl 9 (by decide) (hts _ qX7_three_1) (fun _ h9 => h9) rfl (by decide +kernel) rfl rfl (Nat.le_of_ble_eq_true rfl) dX7_three_255 (fun H locs hP hD hS => ?_)
                  obtain ⟨hP, hD⟩ := pM_pc hP hD
                  exact W.vret hx hb hr (fun t ht hW => ⟨⟨(sMW_pc (f_X7_push (sMW_spent u 11) (gMW_pc (sMW_spent u 11))) ((8 : Int32) * a1)), rfl, (by simp only [f_X7_three, if_neg c2, if_neg c6, if_neg c7, if_neg c8, if_neg c9, if_neg c12, if_neg c16]), by rw [ht]; exact hP, va_K.moved hW.alike hK, hD⟩, hS.F ht⟩) hS.2.2 dX7_three_258
  · skip
    refine lv_icmp_ne (tgt := 11) hx hb dX7_three_4 (by decide) (fun c17 => ?_) (fun c17 => ?_)
    · skip
      refine lv_iconst (v := 0) hx hb dX7_three_11 (by decide) ?_
      exact hJ1 false _ _ _ (by simp only [if_neg c17]) hP hS (lv_sub hl [0, 1, 2] rfl)
    · skip
      refine lv_iconst (v := 1) hx hb dX7_three_7 (by decide) ?_
      refine lv_goto (tgt := 12) hx hb dX7_three_8 (by decide) ?_
      exact hJ1 true _ _ _ (by simp only [if_pos c17]) hP hS (lv_sub hl [0, 1, 2] rfl)

def f_X7_instruction (u : MW) : MW := 
  if (64 : Int32) ≤ (f_X7_next u).1 then 
    if (f_X7_next u).1 = (118 : Int32) then (sMW_hlt (sMW_spent (sMW_jon (f_X7_next u).2 false) 7) true)
    else 
      if (128 : Int32) ≤ (f_X7_next u).1 then 
        if (192 : Int32) ≤ (f_X7_next u).1 then (f_X7_three (sMW_jon (f_X7_next u).2 false) (((f_X7_next u).1 >>> ((3 : Int32) &&& 31)) &&& (7 : Int32)) ((f_X7_next u).1 &&& (7 : Int32)))
        else (f_X7_reckon (sMW_spent (sMW_jon (f_X7_next u).2 false) (if ((f_X7_next u).1 &&& (7 : Int32)) = (6 : Int32) then 7 else 4 : Int32)) (((f_X7_next u).1 >>> ((3 : Int32) &&& 31)) &&& (7 : Int32)) (f_X7_reg (sMW_spent (sMW_jon (f_X7_next u).2 false) (if ((f_X7_next u).1 &&& (7 : Int32)) = (6 : Int32) then 7 else 4 : Int32)) ((f_X7_next u).1 &&& (7 : Int32))))
      else (f_X7_setReg (sMW_spent (sMW_jon (f_X7_next u).2 false) (if (((f_X7_next u).1 >>> ((3 : Int32) &&& 31)) &&& (7 : Int32)) = (6 : Int32) then 7 else (if ((f_X7_next u).1 &&& (7 : Int32)) = (6 : Int32) then 7 else 5 : Int32) : Int32)) (((f_X7_next u).1 >>> ((3 : Int32) &&& 31)) &&& (7 : Int32)) (f_X7_reg (sMW_spent (sMW_jon (f_X7_next u).2 false) (if (((f_X7_next u).1 >>> ((3 : Int32) &&& 31)) &&& (7 : Int32)) = (6 : Int32) then 7 else (if ((f_X7_next u).1 &&& (7 : Int32)) = (6 : Int32) then 7 else 5 : Int32) : Int32)) ((f_X7_next u).1 &&& (7 : Int32))))
  else (f_X7_zero (sMW_jon (f_X7_next u).2 false) (((f_X7_next u).1 >>> ((3 : Int32) &&& 31)) &&& (7 : Int32)) ((f_X7_next u).1 &&& (7 : Int32)))
theorem qX7_instruction_0 : Cond.fieldLink RX7 199 "DiskMachineModel" "justOn" "Z" ∈ wsX7_instruction := by decide +kernel
theorem qX7_instruction_1 : Cond.fieldLink RX7 141 "DiskMachineModel" "spent" "I" ∈ wsX7_instruction := by decide +kernel
theorem qX7_instruction_2 : Cond.fieldLink RX7 204 "DiskMachineModel" "halted" "Z" ∈ wsX7_instruction := by decide +kernel
theorem iX7_instruction_X7 : ∀ w ∈ wsX70, w ∈ wsX7_instruction := by decide +kernel
set_option maxHeartbeats 4000000 in
set_option maxRecDepth 100000 in
theorem k_X7_instruction (l : Launch) (dC : Nat → ClassId) (dI : Nat → Nat → Nat) (cI : ClassId) (mO memA dskA rgA inA outA : Nat) (sz : Nat) (u : MW) (hI : ∃ q : Nat, q ≤ 64 ∧ gMW_ins u = nI q) (hO : ¬ gMW_outs u < 0) : Met l yX7_instruction wsX7_instruction ({ frames := 5, cells := 0, slots := 0, locals := 112 }) (va_Pc [.ref mO] (wB dC dI [(cI, .int)] sz (wM cI mO memA dskA rgA inA outA u))) (va_Qv (fun u' : MW => u' = (f_X7_instruction u)) (fun u' => wE dC dI [(cI, .int)] (va_A (wM cI mO memA dskA rgA inA outA u) sz) (wM cI mO memA dskA rgA inA outA u')) (va_A (wM cI mO memA dskA rgA inA outA u) sz)) 0 0 (va_A (wM cI mO memA dskA rgA inA outA u) sz) := by
  refine Met.ofW (cc := cX7_instruction) (maxL := 4) (ret := none) (by decide) rfl ?_
  intro p e s m args below meth c s₁ B hml hv
  obtain ⟨rfl, hsz, hP, hK, hD0⟩ := hv
  have hx := B.exec
  have hb := B.bytes
  have hr := B.returns
  have hts := atoms_spec (ws := wsX7_instruction) B.pre
  have hown : s.vm.findClass RX7 = some m.cls := findClass_of_methodNamed B.named
  have hlocks := B.notSynchronized
  subst hsz
  have hD := hD0.self (sz := s.heap.size)
  generalize hAe : va_A (wM cI mO memA dskA rgA inA outA u) s.heap.size = A at hD ⊢
  have hA : ∀ q : Nat, s.heap.size ≤ q → A q := fun q h => by rw [← hAe]; exact Or.inr h
  have hS : va_S A s.heap s.heap [] := va_S.rf
  have hP : va_P (dC, dI) vwCl (wM cI mO memA dskA rgA inA outA u) s.heap := hP
  clear hAe hD0
  have hl := lv_entry ([.ref mO]) (n := 4) (Nat.le_of_ble_eq_true rfl)
  rw [lg_entry_eq]
  generalize (lg_sl ([.ref mO]) ++ List.replicate (4 - (lg_sl ([.ref mO])).length) Slot.unset).toArray = ls at hl ⊢
  have hl : lv_has ls 4 [(0, .ref mO)] := hl
  refine jn_H hP hS (fun H locs hP hS => ?_)
  refine lv_aload_n hx hb dX7_instruction_0 rfl (lv_at hl 0 rfl) ?_
  obtain ⟨hPc, hDc, hFc⟩ := xM_M hP hD hS hA
  have hKc := hK.sub (tys' := [(cI, .int)]) [0] rfl
  refine va_calli (va_runV (As := []) (rest := []) ⟨hx, hb, hml, hown, hts⟩ (k_X7_next l dC dI cI mO memA dskA rgA inA outA H.size u) (cwV 0 hts gX7_instruction_X7_next rfl rfl rfl (by decide +kernel) ⟨Nat.le_of_ble_eq_true rfl, Nat.le_of_ble_eq_true rfl⟩) ⟨fun a U g mk q => by obtain ⟨q0, q1, qP, qK, qD⟩ := q; exact ⟨q0, q1, qP, va_K.moved (u := U) (U := U.calling g mk a) (Vm.Alike.refl U.vm) qK, qD⟩, va_recv hKc hPc (ci := 7) (q0 := 0) rfl rfl, fun U hU hW => ⟨rfl, by rw [hU], by rw [hU]; exact hPc, va_K.moved hW.alike hKc, hDc.weaken (fun _ _ _ _ => trivial)⟩⟩ rfl rfl hl.1 rfl (lv_room (Nat.le_of_ble_eq_true rfl)) dX7_instruction_1 ⟨Nat.le_of_ble_eq_true rfl, Nat.le_of_ble_eq_true rfl⟩) hS (fun q _ h => hFc q h) hFc (fun r9 u9 t H1 locs ht hvm hw hB hz1 hk1 hS => ?_)
  obtain ⟨rfl, rfl⟩ := hw
  obtain ⟨hP1, hK1, hD1⟩ := hB
  rw [ht] at hP1
  obtain ⟨hP, hD⟩ := jM_M hP hD hk1 hFc hP1 hD1
  clear hPc hDc hKc hFc hz1 hk1 hP1 hK1 hD1 ht hvm
  generalize H1 = H at hP hS ⊢
  refine lv_istore_n (lv' := [(1, .int (f_X7_next u).1), (0, .ref mO)]) hx hb dX7_instruction_4 rfl hl (by decide) rfl (fun ls hl => ?_)
  refine lv_iload_n hx hb dX7_instruction_5 rfl (lv_at hl 0 rfl) ?_
  refine lv_iconst (v := 3) hx hb dX7_instruction_6 (by decide) ?_
  refine lv_ishr hx hb dX7_instruction_7 ?_
  refine lv_bipush (v := 7) hx hb dX7_instruction_8 (by decide) ?_
  refine lv_iand hx hb dX7_instruction_10 ?_
  refine lv_istore_n (lv' := [(2, .int (((f_X7_next u).1 >>> ((3 : Int32) &&& 31)) &&& (7 : Int32))), (1, .int (f_X7_next u).1), (0, .ref mO)]) hx hb dX7_instruction_11 rfl hl (by decide) rfl (fun ls hl => ?_)
  refine lv_iload_n hx hb dX7_instruction_12 rfl (lv_at hl 1 rfl) ?_
  refine lv_bipush (v := 7) hx hb dX7_instruction_13 (by decide) ?_
  refine lv_iand hx hb dX7_instruction_15 ?_
  refine lv_istore_n (lv' := [(3, .int ((f_X7_next u).1 &&& (7 : Int32))), (2, .int (((f_X7_next u).1 >>> ((3 : Int32) &&& 31)) &&& (7 : Int32))), (1, .int (f_X7_next u).1), (0, .ref mO)]) hx hb dX7_instruction_16 rfl hl (by decide) rfl (fun ls hl => ?_)
  refine lv_aload_n hx hb dX7_instruction_17 rfl (lv_at hl 3 rfl) ?_
  refine lv_iconst (v := 0) hx hb dX7_instruction_18 (by decide) ?_
  refine va_put (D := (dC, dI)) (ci := 7) (v := .int (bI false)) (ty := .boolean) (C := RX7) (T := TX7) (N := 30) hx hb hts iX7_instruction_X7 tyX7 tyX7_ok nmX7 hown hK hP hD hS 0 rfl rfl 13 (by decide) (hts _ qX7_instruction_0) (fun _ h9 => h9) rfl (by decide +kernel) (bI_nar false) (bI_fit false) (Nat.le_of_ble_eq_true rfl) dX7_instruction_19 (fun H locs hP hD hS => ?_)
  obtain ⟨hP, hD⟩ := pM_jon hP hD
  refine lv_iload_n hx hb dX7_instruction_22 rfl (lv_at hl 2 rfl) ?_
  refine lv_bipush (v := 64) hx hb dX7_instruction_23 (by decide) ?_
  refine lv_icmp_ge (tgt := 37) hx hb dX7_instruction_25 (by decide) (fun c1 => ?_) (fun c1 => ?_)
  · skip
    refine lv_iload_n hx hb dX7_instruction_37 rfl (lv_at hl 2 rfl) ?_
    refine lv_bipush (v := 118) hx hb dX7_instruction_38 (by decide) ?_
    refine lv_icmp_ne (tgt := 57) hx hb dX7_instruction_40 (by decide) (fun c2 => ?_) (fun c2 => ?_)
    · skip
      refine lv_iload_n hx hb dX7_instruction_57 rfl (lv_at hl 2 rfl) ?_
      refine lv_sipush (v := 128) hx hb dX7_instruction_58 (by decide) ?_
      refine lv_icmp_ge (tgt := 99) hx hb dX7_instruction_61 (by decide) (fun c3 => ?_) (fun c3 => ?_)
      · skip
        refine lv_iload_n hx hb dX7_instruction_99 rfl (lv_at hl 2 rfl) ?_
        refine lv_sipush (v := 192) hx hb dX7_instruction_100 (by decide) ?_
        refine lv_icmp_ge (tgt := 135) hx hb dX7_instruction_103 (by decide) (fun c4 => ?_) (fun c4 => ?_)
        · skip
          refine lv_aload_n hx hb dX7_instruction_135 rfl (lv_at hl 3 rfl) ?_
          refine lv_iload_n hx hb dX7_instruction_136 rfl (lv_at hl 1 rfl) ?_
          refine lv_iload_n hx hb dX7_instruction_137 rfl (lv_at hl 0 rfl) ?_
          obtain ⟨hPc, hDc, hFc⟩ := xM_M hP hD hS hA
          have hKc := hK.sub (tys' := [(cI, .int)]) [0] rfl
          refine va_callv (va_runV (As := [.int (((f_X7_next u).1 >>> ((3 : Int32) &&& 31)) &&& (7 : Int32)), .int ((f_X7_next u).1 &&& (7 : Int32))]) (rest := []) ⟨hx, hb, hml, hown, hts⟩ (k_X7_three l dC dI cI mO memA dskA rgA inA outA H.size (sMW_jon (f_X7_next u).2 false) (((f_X7_next u).1 >>> ((3 : Int32) &&& 31)) &&& (7 : Int32)) ((f_X7_next u).1 &&& (7 : Int32)) (ix_8 _) hI hO) (cwV 2 hts gX7_instruction_X7_three rfl rfl rfl (by decide +kernel) ⟨Nat.le_of_ble_eq_true rfl, Nat.le_of_ble_eq_true rfl⟩) ⟨fun a U g mk q => by obtain ⟨q0, q1, qP, qK, qD⟩ := q; exact ⟨q0, q1, qP, va_K.moved (u := U) (U := U.calling g mk a) (Vm.Alike.refl U.vm) qK, qD⟩, va_recv hKc hPc (ci := 7) (q0 := 0) rfl rfl, fun U hU hW => ⟨rfl, by rw [hU], by rw [hU]; exact hPc, va_K.moved hW.alike hKc, hDc.weaken (fun _ _ _ _ => trivial)⟩⟩ rfl rfl hl.1 rfl (lv_room (Nat.le_of_ble_eq_true rfl)) dX7_instruction_138 ⟨Nat.le_of_ble_eq_true rfl, Nat.le_of_ble_eq_true rfl⟩) hS (fun q _ h => hFc q h) hFc (fun u9 t H1 locs ht hvm hw hB hz1 hk1 hS => ?_)
          subst hw
          obtain ⟨hP1, hK1, hD1⟩ := hB
          rw [ht] at hP1
          obtain ⟨hP, hD⟩ := jM_M hP hD hk1 hFc hP1 hD1
          clear hPc hDc hKc hFc hz1 hk1 hP1 hK1 hD1 ht hvm
          generalize H1 = H at hP hS ⊢
          exact W.vret hx hb hr (fun t ht hW => ⟨⟨(f_X7_three (sMW_jon (f_X7_next u).2 false) (((f_X7_next u).1 >>> ((3 : Int32) &&& 31)) &&& (7 : Int32)) ((f_X7_next u).1 &&& (7 : Int32))), rfl, (by simp only [f_X7_instruction, if_pos c1, if_neg c2, if_pos c3, if_pos c4]), by rw [ht]; exact hP, va_K.moved hW.alike hK, hD⟩, hS.F ht⟩) hS.2.2 dX7_instruction_141
        · skip
          refine lv_aload_n hx hb dX7_instruction_106 rfl (lv_at hl 3 rfl) ?_
          refine lv_iload_n hx hb dX7_instruction_107 rfl (lv_at hl 0 rfl) ?_
          refine lv_bipush (v := 6) hx hb dX7_instruction_108 (by decide) ?_
          refine jn_i (D := (dC, dI)) (cl := vwCl) (ws := (wM cI mO memA dskA rgA inA outA (sMW_jon (f_X7_next u).2 false))) (A := A) (H0 := s.heap) (nL := 4) 119 (if ((f_X7_next u).1 &&& (7 : Int32)) = (6 : Int32) then 7 else 4 : Int32) [(0, .ref mO), (1, .int (f_X7_next u).1), (2, .int (((f_X7_next u).1 >>> ((3 : Int32) &&& 31)) &&& (7 : Int32))), (3, .int ((f_X7_next u).1 &&& (7 : Int32)))] [.ref mO] (fun H locs ls hP hS hl => ?_) (fun hJ5 => ?_)
          · skip
            refine va_put (D := (dC, dI)) (ci := 7) (v := .int (if ((f_X7_next u).1 &&& (7 : Int32)) = (6 : Int32) then 7 else 4 : Int32)) (ty := .int) (C := RX7) (T := TX7) (N := 30) hx hb hts iX7_instruction_X7 tyX7 tyX7_ok nmX7 hown hK hP hD hS 0 rfl rfl 16 (by decide) (hts _ qX7_instruction_1) (fun _ h9 => h9) rfl (by decide +kernel) rfl rfl (Nat.le_of_ble_eq_true rfl) dX7_instruction_119 (fun H locs hP hD hS => ?_)
            obtain ⟨hP, hD⟩ := pM_spent hP hD
            refine lv_aload_n hx hb dX7_instruction_122 rfl (lv_at hl 0 rfl) ?_
            refine lv_iload_n hx hb dX7_instruction_123 rfl (lv_at hl 2 rfl) ?_
            refine lv_aload_n hx hb dX7_instruction_124 rfl (lv_at hl 0 rfl) ?_
            refine lv_iload_n hx hb dX7_instruction_125 rfl (lv_at hl 3 rfl) ?_
            obtain ⟨hPc, hDc, hFc⟩ := xM_M hP hD hS hA
            have hKc := hK.sub (tys' := [(cI, .int)]) [0] rfl
            refine va_calli (va_runV (As := [.int ((f_X7_next u).1 &&& (7 : Int32))]) (rest := [.int (((f_X7_next u).1 >>> ((3 : Int32) &&& 31)) &&& (7 : Int32)), .ref mO]) ⟨hx, hb, hml, hown, hts⟩ (k_X7_reg l dC dI cI mO memA dskA rgA inA outA H.size (sMW_spent (sMW_jon (f_X7_next u).2 false) (if ((f_X7_next u).1 &&& (7 : Int32)) = (6 : Int32) then 7 else 4 : Int32)) ((f_X7_next u).1 &&& (7 : Int32)) (ix_8 _)) (cwV 1 hts gX7_instruction_X7_reg rfl rfl rfl (by decide +kernel) ⟨Nat.le_of_ble_eq_true rfl, Nat.le_of_ble_eq_true rfl⟩) ⟨fun a U g mk q => by obtain ⟨q0, q1, qP, qK, qD⟩ := q; exact ⟨q0, q1, qP, va_K.moved (u := U) (U := U.calling g mk a) (Vm.Alike.refl U.vm) qK, qD⟩, va_recv hKc hPc (ci := 7) (q0 := 0) rfl rfl, fun U hU hW => ⟨rfl, by rw [hU], by rw [hU]; exact hPc, va_K.moved hW.alike hKc, hDc.weaken (fun _ _ _ _ => trivial)⟩⟩ rfl rfl hl.1 rfl (lv_room (Nat.le_of_ble_eq_true rfl)) dX7_instruction_126 ⟨Nat.le_of_ble_eq_true rfl, Nat.le_of_ble_eq_true rfl⟩) hS (fun q _ h => hFc q h) hFc (fun r9 u9 t H1 locs ht hvm hw hB hz1 hk1 hS => ?_)
            obtain ⟨hw1, hw2⟩ := hw
            have hw2 := hw2.symm
            subst hw1 hw2
            obtain ⟨hP1, hK1, hD1⟩ := hB
            rw [ht] at hP1
            obtain ⟨hP, hD⟩ := jM_M0 hP hD hk1 hFc hP1 hD1
            clear hPc hDc hKc hFc hz1 hk1 hP1 hK1 hD1 ht hvm
            generalize H1 = H at hP hS ⊢
            obtain ⟨hPc, hDc, hFc⟩ := xM_M hP hD hS hA
            have hKc := hK.sub (tys' := [(cI, .int)]) [0] rfl
            refine va_callv (va_runV (As := [.int (((f_X7_next u).1 >>> ((3 : Int32) &&& 31)) &&& (7 : Int32)), .int (f_X7_reg (sMW_spent (sMW_jon (f_X7_next u).2 false) (if ((f_X7_next u).1 &&& (7 : Int32)) = (6 : Int32) then 7 else 4 : Int32)) ((f_X7_next u).1 &&& (7 : Int32)))]) (rest := []) ⟨hx, hb, hml, hown, hts⟩ (k_X7_reckon l dC dI cI mO memA dskA rgA inA outA H.size (sMW_spent (sMW_jon (f_X7_next u).2 false) (if ((f_X7_next u).1 &&& (7 : Int32)) = (6 : Int32) then 7 else 4 : Int32)) (((f_X7_next u).1 >>> ((3 : Int32) &&& 31)) &&& (7 : Int32)) (f_X7_reg (sMW_spent (sMW_jon (f_X7_next u).2 false) (if ((f_X7_next u).1 &&& (7 : Int32)) = (6 : Int32) then 7 else 4 : Int32)) ((f_X7_next u).1 &&& (7 : Int32)))) (cwV 2 hts gX7_instruction_X7_reckon rfl rfl rfl (by decide +kernel) ⟨Nat.le_of_ble_eq_true rfl, Nat.le_of_ble_eq_true rfl⟩) ⟨fun a U g mk q => by obtain ⟨q0, q1, qP, qK, qD⟩ := q; exact ⟨q0, q1, qP, va_K.moved (u := U) (U := U.calling g mk a) (Vm.Alike.refl U.vm) qK, qD⟩, va_recv hKc hPc (ci := 7) (q0 := 0) rfl rfl, fun U hU hW => ⟨rfl, by rw [hU], by rw [hU]; exact hPc, va_K.moved hW.alike hKc, hDc.weaken (fun _ _ _ _ => trivial)⟩⟩ rfl rfl hl.1 rfl (lv_room (Nat.le_of_ble_eq_true rfl)) dX7_instruction_129 ⟨Nat.le_of_ble_eq_true rfl, Nat.le_of_ble_eq_true rfl⟩) hS (fun q _ h => hFc q h) hFc (fun u9 t H1 locs ht hvm hw hB hz1 hk1 hS => ?_)
            subst hw
            obtain ⟨hP1, hK1, hD1⟩ := hB
            rw [ht] at hP1
            obtain ⟨hP, hD⟩ := jM_M hP hD hk1 hFc hP1 hD1
            clear hPc hDc hKc hFc hz1 hk1 hP1 hK1 hD1 ht hvm
            generalize H1 = H at hP hS ⊢
            refine lv_goto (tgt := 141) hx hb dX7_instruction_132 (by decide) ?_
            exact W.vret hx hb hr (fun t ht hW => ⟨⟨(f_X7_reckon (sMW_spent (sMW_jon (f_X7_next u).2 false) (if ((f_X7_next u).1 &&& (7 : Int32)) = (6 : Int32) then 7 else 4 : Int32)) (((f_X7_next u).1 >>> ((3 : Int32) &&& 31)) &&& (7 : Int32)) (f_X7_reg (sMW_spent (sMW_jon (f_X7_next u).2 false) (if ((f_X7_next u).1 &&& (7 : Int32)) = (6 : Int32) then 7 else 4 : Int32)) ((f_X7_next u).1 &&& (7 : Int32)))), rfl, (by simp only [f_X7_instruction, if_pos c1, if_neg c2, if_pos c3, if_neg c4]), by rw [ht]; exact hP, va_K.moved hW.alike hK, hD⟩, hS.F ht⟩) hS.2.2 dX7_instruction_141
          · skip
            refine lv_icmp_ne (tgt := 118) hx hb dX7_instruction_110 (by decide) (fun c6 => ?_) (fun c6 => ?_)
            · skip
              refine lv_iconst (v := 4) hx hb dX7_instruction_118 (by decide) ?_
              exact hJ5 4 _ _ _ (by simp only [if_neg c6]) hP hS (lv_sub hl [3, 2, 1, 0] rfl)
            · skip
              refine lv_bipush (v := 7) hx hb dX7_instruction_113 (by decide) ?_
              refine lv_goto (tgt := 119) hx hb dX7_instruction_115 (by decide) ?_
              exact hJ5 7 _ _ _ (by simp only [if_pos c6]) hP hS (lv_sub hl [3, 2, 1, 0] rfl)
      · skip
        refine lv_aload_n hx hb dX7_instruction_64 rfl (lv_at hl 3 rfl) ?_
        refine lv_iload_n hx hb dX7_instruction_65 rfl (lv_at hl 1 rfl) ?_
        refine lv_bipush (v := 6) hx hb dX7_instruction_66 (by decide) ?_
        refine jn_i (D := (dC, dI)) (cl := vwCl) (ws := (wM cI mO memA dskA rgA inA outA (sMW_jon (f_X7_next u).2 false))) (A := A) (H0 := s.heap) (nL := 4) 83 (if (((f_X7_next u).1 >>> ((3 : Int32) &&& 31)) &&& (7 : Int32)) = (6 : Int32) then 7 else (if ((f_X7_next u).1 &&& (7 : Int32)) = (6 : Int32) then 7 else 5 : Int32) : Int32) [(0, .ref mO), (1, .int (f_X7_next u).1), (2, .int (((f_X7_next u).1 >>> ((3 : Int32) &&& 31)) &&& (7 : Int32))), (3, .int ((f_X7_next u).1 &&& (7 : Int32)))] [.ref mO] (fun H locs ls hP hS hl => ?_) (fun hJ7 => ?_)
        · skip
          refine va_put (D := (dC, dI)) (ci := 7) (v := .int (if (((f_X7_next u).1 >>> ((3 : Int32) &&& 31)) &&& (7 : Int32)) = (6 : Int32) then 7 else (if ((f_X7_next u).1 &&& (7 : Int32)) = (6 : Int32) then 7 else 5 : Int32) : Int32)) (ty := .int) (C := RX7) (T := TX7) (N := 30) hx hb hts iX7_instruction_X7 tyX7 tyX7_ok nmX7 hown hK hP hD hS 0 rfl rfl 16 (by decide) (hts _ qX7_instruction_1) (fun _ h9 => h9) rfl (by decide +kernel) rfl rfl (Nat.le_of_ble_eq_true rfl) dX7_instruction_83 (fun H locs hP hD hS => ?_)
          obtain ⟨hP, hD⟩ := pM_spent hP hD
          refine lv_aload_n hx hb dX7_instruction_86 rfl (lv_at hl 0 rfl) ?_
          refine lv_iload_n hx hb dX7_instruction_87 rfl (lv_at hl 2 rfl) ?_
          refine lv_aload_n hx hb dX7_instruction_88 rfl (lv_at hl 0 rfl) ?_
          refine lv_iload_n hx hb dX7_instruction_89 rfl (lv_at hl 3 rfl) ?_
          obtain ⟨hPc, hDc, hFc⟩ := xM_M hP hD hS hA
          have hKc := hK.sub (tys' := [(cI, .int)]) [0] rfl
          refine va_calli (va_runV (As := [.int ((f_X7_next u).1 &&& (7 : Int32))]) (rest := [.int (((f_X7_next u).1 >>> ((3 : Int32) &&& 31)) &&& (7 : Int32)), .ref mO]) ⟨hx, hb, hml, hown, hts⟩ (k_X7_reg l dC dI cI mO memA dskA rgA inA outA H.size (sMW_spent (sMW_jon (f_X7_next u).2 false) (if (((f_X7_next u).1 >>> ((3 : Int32) &&& 31)) &&& (7 : Int32)) = (6 : Int32) then 7 else (if ((f_X7_next u).1 &&& (7 : Int32)) = (6 : Int32) then 7 else 5 : Int32) : Int32)) ((f_X7_next u).1 &&& (7 : Int32)) (ix_8 _)) (cwV 1 hts gX7_instruction_X7_reg rfl rfl rfl (by decide +kernel) ⟨Nat.le_of_ble_eq_true rfl, Nat.le_of_ble_eq_true rfl⟩) ⟨fun a U g mk q => by obtain ⟨q0, q1, qP, qK, qD⟩ := q; exact ⟨q0, q1, qP, va_K.moved (u := U) (U := U.calling g mk a) (Vm.Alike.refl U.vm) qK, qD⟩, va_recv hKc hPc (ci := 7) (q0 := 0) rfl rfl, fun U hU hW => ⟨rfl, by rw [hU], by rw [hU]; exact hPc, va_K.moved hW.alike hKc, hDc.weaken (fun _ _ _ _ => trivial)⟩⟩ rfl rfl hl.1 rfl (lv_room (Nat.le_of_ble_eq_true rfl)) dX7_instruction_90 ⟨Nat.le_of_ble_eq_true rfl, Nat.le_of_ble_eq_true rfl⟩) hS (fun q _ h => hFc q h) hFc (fun r9 u9 t H1 locs ht hvm hw hB hz1 hk1 hS => ?_)
          obtain ⟨hw1, hw2⟩ := hw
          have hw2 := hw2.symm
          subst hw1 hw2
          obtain ⟨hP1, hK1, hD1⟩ := hB
          rw [ht] at hP1
          obtain ⟨hP, hD⟩ := jM_M0 hP hD hk1 hFc hP1 hD1
          clear hPc hDc hKc hFc hz1 hk1 hP1 hK1 hD1 ht hvm
          generalize H1 = H at hP hS ⊢
          obtain ⟨hPc, hDc, hFc⟩ := xM_M hP hD hS hA
          have hKc := hK.sub (tys' := [(cI, .int)]) [0] rfl
          refine va_callv (va_runV (As := [.int (((f_X7_next u).1 >>> ((3 : Int32) &&& 31)) &&& (7 : Int32)), .int (f_X7_reg (sMW_spent (sMW_jon (f_X7_next u).2 false) (if (((f_X7_next u).1 >>> ((3 : Int32) &&& 31)) &&& (7 : Int32)) = (6 : Int32) then 7 else (if ((f_X7_next u).1 &&& (7 : Int32)) = (6 : Int32) then 7 else 5 : Int32) : Int32)) ((f_X7_next u).1 &&& (7 : Int32)))]) (rest := []) ⟨hx, hb, hml, hown, hts⟩ (k_X7_setReg l dC dI cI mO memA dskA rgA inA outA H.size (sMW_spent (sMW_jon (f_X7_next u).2 false) (if (((f_X7_next u).1 >>> ((3 : Int32) &&& 31)) &&& (7 : Int32)) = (6 : Int32) then 7 else (if ((f_X7_next u).1 &&& (7 : Int32)) = (6 : Int32) then 7 else 5 : Int32) : Int32)) (((f_X7_next u).1 >>> ((3 : Int32) &&& 31)) &&& (7 : Int32)) (f_X7_reg (sMW_spent (sMW_jon (f_X7_next u).2 false) (if (((f_X7_next u).1 >>> ((3 : Int32) &&& 31)) &&& (7 : Int32)) = (6 : Int32) then 7 else (if ((f_X7_next u).1 &&& (7 : Int32)) = (6 : Int32) then 7 else 5 : Int32) : Int32)) ((f_X7_next u).1 &&& (7 : Int32))) (ix_8 _)) (cwV 2 hts gX7_instruction_X7_setReg rfl rfl rfl (by decide +kernel) ⟨Nat.le_of_ble_eq_true rfl, Nat.le_of_ble_eq_true rfl⟩) ⟨fun a U g mk q => by obtain ⟨q0, q1, qP, qK, qD⟩ := q; exact ⟨q0, q1, qP, va_K.moved (u := U) (U := U.calling g mk a) (Vm.Alike.refl U.vm) qK, qD⟩, va_recv hKc hPc (ci := 7) (q0 := 0) rfl rfl, fun U hU hW => ⟨rfl, by rw [hU], by rw [hU]; exact hPc, va_K.moved hW.alike hKc, hDc.weaken (fun _ _ _ _ => trivial)⟩⟩ rfl rfl hl.1 rfl (lv_room (Nat.le_of_ble_eq_true rfl)) dX7_instruction_93 ⟨Nat.le_of_ble_eq_true rfl, Nat.le_of_ble_eq_true rfl⟩) hS (fun q _ h => hFc q h) hFc (fun u9 t H1 locs ht hvm hw hB hz1 hk1 hS => ?_)
          subst hw
          obtain ⟨hP1, hK1, hD1⟩ := hB
          rw [ht] at hP1
          obtain ⟨hP, hD⟩ := jM_M hP hD hk1 hFc hP1 hD1
          clear hPc hDc hKc hFc hz1 hk1 hP1 hK1 hD1 ht hvm
          generalize H1 = H at hP hS ⊢
          refine lv_goto (tgt := 141) hx hb dX7_instruction_96 (by decide) ?_
          exact W.vret hx hb hr (fun t ht hW => ⟨⟨(f_X7_setReg (sMW_spent (sMW_jon (f_X7_next u).2 false) (if (((f_X7_next u).1 >>> ((3 : Int32) &&& 31)) &&& (7 : Int32)) = (6 : Int32) then 7 else (if ((f_X7_next u).1 &&& (7 : Int32)) = (6 : Int32) then 7 else 5 : Int32) : Int32)) (((f_X7_next u).1 >>> ((3 : Int32) &&& 31)) &&& (7 : Int32)) (f_X7_reg (sMW_spent (sMW_jon (f_X7_next u).2 false) (if (((f_X7_next u).1 >>> ((3 : Int32) &&& 31)) &&& (7 : Int32)) = (6 : Int32) then 7 else (if ((f_X7_next u).1 &&& (7 : Int32)) = (6 : Int32) then 7 else 5 : Int32) : Int32)) ((f_X7_next u).1 &&& (7 : Int32)))), rfl, (by simp only [f_X7_instruction, if_pos c1, if_neg c2, if_neg c3]), by rw [ht]; exact hP, va_K.moved hW.alike hK, hD⟩, hS.F ht⟩) hS.2.2 dX7_instruction_141
        · skip
          refine lv_icmp_eq (tgt := 77) hx hb dX7_instruction_68 (by decide) (fun c8 => ?_) (fun c8 => ?_)
          · skip
            refine lv_bipush (v := 7) hx hb dX7_instruction_77 (by decide) ?_
            refine lv_goto (tgt := 83) hx hb dX7_instruction_79 (by decide) ?_
            exact hJ7 7 _ _ _ (by simp only [if_pos c8]) hP hS (lv_sub hl [3, 2, 1, 0] rfl)
          · skip
            refine lv_iload_n hx hb dX7_instruction_71 rfl (lv_at hl 0 rfl) ?_
            refine lv_bipush (v := 6) hx hb dX7_instruction_72 (by decide) ?_
            refine jn_i (D := (dC, dI)) (cl := vwCl) (ws := (wM cI mO memA dskA rgA inA outA (sMW_jon (f_X7_next u).2 false))) (A := A) (H0 := s.heap) (nL := 4) 83 (if ((f_X7_next u).1 &&& (7 : Int32)) = (6 : Int32) then 7 else 5 : Int32) [(0, .ref mO), (1, .int (f_X7_next u).1), (2, .int (((f_X7_next u).1 >>> ((3 : Int32) &&& 31)) &&& (7 : Int32))), (3, .int ((f_X7_next u).1 &&& (7 : Int32)))] [.ref mO] (fun H locs ls hP hS hl => ?_) (fun hJ9 => ?_)
            · skip
              exact hJ7 (if ((f_X7_next u).1 &&& (7 : Int32)) = (6 : Int32) then 7 else 5 : Int32) _ _ _ (by simp only [if_neg c8]) hP hS (lv_sub hl [0, 1, 2, 3] rfl)
            · skip
              refine lv_icmp_ne (tgt := 82) hx hb dX7_instruction_74 (by decide) (fun c10 => ?_) (fun c10 => ?_)
              · skip
                refine lv_iconst (v := 5) hx hb dX7_instruction_82 (by decide) ?_
                exact hJ9 5 _ _ _ (by simp only [if_neg c10]) hP hS (lv_sub hl [3, 2, 1, 0] rfl)
              · skip
                refine lv_bipush (v := 7) hx hb dX7_instruction_77 (by decide) ?_
                refine lv_goto (tgt := 83) hx hb dX7_instruction_79 (by decide) ?_
                exact hJ9 7 _ _ _ (by simp only [if_pos c10]) hP hS (lv_sub hl [3, 2, 1, 0] rfl)
    · skip
      refine lv_aload_n hx hb dX7_instruction_43 rfl (lv_at hl 3 rfl) ?_
      refine lv_bipush (v := 7) hx hb dX7_instruction_44 (by decide) ?_
      refine va_put (D := (dC, dI)) (ci := 7) (v := .int 7) (ty := .int) (C := RX7) (T := TX7) (N := 30) hx hb hts iX7_instruction_X7 tyX7 tyX7_ok nmX7 hown hK hP hD hS 0 rfl rfl 16 (by decide) (hts _ qX7_instruction_1) (fun _ h9 => h9) rfl (by decide +kernel) rfl rfl (Nat.le_of_ble_eq_true rfl) dX7_instruction_46 (fun H locs hP hD hS => ?_)
      obtain ⟨hP, hD⟩ := pM_spent hP hD
      refine lv_aload_n hx hb dX7_instruction_49 rfl (lv_at hl 3 rfl) ?_
      refine lv_iconst (v := 1) hx hb dX7_instruction_50 (by decide) ?_
      refine va_put (D := (dC, dI)) (ci := 7) (v := .int (bI true)) (ty := .boolean) (C := RX7) (T := TX7) (N := 30) hx hb hts iX7_instruction_X7 tyX7 tyX7_ok nmX7 hown hK hP hD hS 0 rfl rfl 11 (by decide) (hts _ qX7_instruction_2) (fun _ h9 => h9) rfl (by decide +kernel) (bI_nar true) (bI_fit true) (Nat.le_of_ble_eq_true rfl) dX7_instruction_51 (fun H locs hP hD hS => ?_)
      obtain ⟨hP, hD⟩ := pM_hlt hP hD
      refine lv_goto (tgt := 141) hx hb dX7_instruction_54 (by decide) ?_
      exact W.vret hx hb hr (fun t ht hW => ⟨⟨(sMW_hlt (sMW_spent (sMW_jon (f_X7_next u).2 false) 7) true), rfl, (by simp only [f_X7_instruction, if_pos c1, if_pos c2]), by rw [ht]; exact hP, va_K.moved hW.alike hK, hD⟩, hS.F ht⟩) hS.2.2 dX7_instruction_141
  · skip
    refine lv_aload_n hx hb dX7_instruction_28 rfl (lv_at hl 3 rfl) ?_
    refine lv_iload_n hx hb dX7_instruction_29 rfl (lv_at hl 1 rfl) ?_
    refine lv_iload_n hx hb dX7_instruction_30 rfl (lv_at hl 0 rfl) ?_
    obtain ⟨hPc, hDc, hFc⟩ := xM_M hP hD hS hA
    have hKc := hK.sub (tys' := [(cI, .int)]) [0] rfl
    refine va_callv (va_runV (As := [.int (((f_X7_next u).1 >>> ((3 : Int32) &&& 31)) &&& (7 : Int32)), .int ((f_X7_next u).1 &&& (7 : Int32))]) (rest := []) ⟨hx, hb, hml, hown, hts⟩ (k_X7_zero l dC dI cI mO memA dskA rgA inA outA H.size (sMW_jon (f_X7_next u).2 false) (((f_X7_next u).1 >>> ((3 : Int32) &&& 31)) &&& (7 : Int32)) ((f_X7_next u).1 &&& (7 : Int32)) (ix_8 _)) (cwV 2 hts gX7_instruction_X7_zero rfl rfl rfl (by decide +kernel) ⟨Nat.le_of_ble_eq_true rfl, Nat.le_of_ble_eq_true rfl⟩) ⟨fun a U g mk q => by obtain ⟨q0, q1, qP, qK, qD⟩ := q; exact ⟨q0, q1, qP, va_K.moved (u := U) (U := U.calling g mk a) (Vm.Alike.refl U.vm) qK, qD⟩, va_recv hKc hPc (ci := 7) (q0 := 0) rfl rfl, fun U hU hW => ⟨rfl, by rw [hU], by rw [hU]; exact hPc, va_K.moved hW.alike hKc, hDc.weaken (fun _ _ _ _ => trivial)⟩⟩ rfl rfl hl.1 rfl (lv_room (Nat.le_of_ble_eq_true rfl)) dX7_instruction_31 ⟨Nat.le_of_ble_eq_true rfl, Nat.le_of_ble_eq_true rfl⟩) hS (fun q _ h => hFc q h) hFc (fun u9 t H1 locs ht hvm hw hB hz1 hk1 hS => ?_)
    subst hw
    obtain ⟨hP1, hK1, hD1⟩ := hB
    rw [ht] at hP1
    obtain ⟨hP, hD⟩ := jM_M hP hD hk1 hFc hP1 hD1
    clear hPc hDc hKc hFc hz1 hk1 hP1 hK1 hD1 ht hvm
    generalize H1 = H at hP hS ⊢
    refine lv_goto (tgt := 141) hx hb dX7_instruction_34 (by decide) ?_
    exact W.vret hx hb hr (fun t ht hW => ⟨⟨(f_X7_zero (sMW_jon (f_X7_next u).2 false) (((f_X7_next u).1 >>> ((3 : Int32) &&& 31)) &&& (7 : Int32)) ((f_X7_next u).1 &&& (7 : Int32))), rfl, (by simp only [f_X7_instruction, if_neg c1]), by rw [ht]; exact hP, va_K.moved hW.alike hK, hD⟩, hS.F ht⟩) hS.2.2 dX7_instruction_141
