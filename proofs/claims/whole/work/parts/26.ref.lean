def f_X7_jumpTo (u : MW) (a1 : Bool) (a2 : Bool) (a3 : Int32) : MW := 
  if (bI a1) = (0 : Int32) then (sMW_pc (sMW_spent (f_X7_nextWord u).2 a3) (if (bI a1) = (0 : Int32) then (gMW_pc (sMW_spent (f_X7_nextWord u).2 a3)) else (f_X7_nextWord u).1 : Int32))
  else 
    if (bI a2) = (0 : Int32) then (sMW_pc (sMW_spent (f_X7_nextWord u).2 a3) (if (bI a1) = (0 : Int32) then (gMW_pc (sMW_spent (f_X7_nextWord u).2 a3)) else (f_X7_nextWord u).1 : Int32))
    else (sMW_pc (f_X7_push (sMW_spent (f_X7_nextWord u).2 a3) (gMW_pc (sMW_spent (f_X7_nextWord u).2 a3))) (if (bI a1) = (0 : Int32) then (gMW_pc (f_X7_push (sMW_spent (f_X7_nextWord u).2 a3) (gMW_pc (sMW_spent (f_X7_nextWord u).2 a3)))) else (f_X7_nextWord u).1 : Int32))
theorem qX7_jumpTo_0 : Cond.fieldLink RX7 141 "DiskMachineModel" "spent" "I" ∈ wsX7_jumpTo := by decide +kernel
theorem qX7_jumpTo_1 : Cond.fieldLink RX7 47 "DiskMachineModel" "pc" "I" ∈ wsX7_jumpTo := by decide +kernel
theorem iX7_jumpTo_X7 : ∀ w ∈ wsX70, w ∈ wsX7_jumpTo := by decide +kernel
set_option maxHeartbeats 4000000 in
set_option maxRecDepth 100000 in
theorem k_X7_jumpTo (l : Launch) (dC : Nat → ClassId) (dI : Nat → Nat → Nat) (cI : ClassId) (mO memA dskA rgA inA outA : Nat) (sz : Nat) (u : MW) (a1 : Bool) (a2 : Bool) (a3 : Int32) : Met l yX7_jumpTo wsX7_jumpTo ({ frames := 3, cells := 0, slots := 0, locals := 65 }) (va_Pc [.ref mO, .int (bI a1), .int (bI a2), .int a3] (wB dC dI [(cI, .int)] sz (wM cI mO memA dskA rgA inA outA u))) (va_Qv (fun u' : MW => u' = (f_X7_jumpTo u a1 a2 a3)) (fun u' => wE dC dI [(cI, .int)] (va_A (wM cI mO memA dskA rgA inA outA u) sz) (wM cI mO memA dskA rgA inA outA u')) (va_A (wM cI mO memA dskA rgA inA outA u) sz)) 0 0 (va_A (wM cI mO memA dskA rgA inA outA u) sz) := by
  refine Met.ofW (cc := cX7_jumpTo) (maxL := 5) (ret := none) (by decide) rfl ?_
  intro p e s m args below meth c s₁ B hml hv
  obtain ⟨rfl, hsz, hP, hK, hD0⟩ := hv
  have hx := B.exec
  have hb := B.bytes
  have hr := B.returns
  have hts := atoms_spec (ws := wsX7_jumpTo) B.pre
  have hown : s.vm.findClass RX7 = some m.cls := findClass_of_methodNamed B.named
  have hlocks := B.notSynchronized
  subst hsz
  have hD := hD0.self (sz := s.heap.size)
  generalize hAe : va_A (wM cI mO memA dskA rgA inA outA u) s.heap.size = A at hD ⊢
  have hA : ∀ q : Nat, s.heap.size ≤ q → A q := fun q h => by rw [← hAe]; exact Or.inr h
  have hS : va_S A s.heap s.heap [] := va_S.rf
  have hP : va_P (dC, dI) vwCl (wM cI mO memA dskA rgA inA outA u) s.heap := hP
  clear hAe hD0
  have hl := lv_entry ([.ref mO, .int (bI a1), .int (bI a2), .int a3]) (n := 5) (Nat.le_of_ble_eq_true rfl)
  rw [lg_entry_eq]
  generalize (lg_sl ([.ref mO, .int (bI a1), .int (bI a2), .int a3]) ++ List.replicate (5 - (lg_sl ([.ref mO, .int (bI a1), .int (bI a2), .int a3])).length) Slot.unset).toArray = ls at hl ⊢
  have hl : lv_has ls 5 [(0, .ref mO), (1, .int (bI a1)), (2, .int (bI a2)), (3, .int a3)] := hl
  refine jn_H hP hS (fun H locs hP hS => ?_)
  refine lv_aload_n hx hb dX7_jumpTo_0 rfl (lv_at hl 0 rfl) ?_
  obtain ⟨hPc, hDc, hFc⟩ := xM_M hP hD hS hA
  have hKc := hK.sub (tys' := [(cI, .int)]) [0] rfl
  refine va_calli (va_runV (As := []) (rest := []) ⟨hx, hb, hml, hown, hts⟩ (k_X7_nextWord l dC dI cI mO memA dskA rgA inA outA H.size u) (cwV 0 hts gX7_jumpTo_X7_nextWord rfl rfl rfl (by decide +kernel) ⟨Nat.le_of_ble_eq_true rfl, Nat.le_of_ble_eq_true rfl⟩) ⟨fun a U g mk q => by obtain ⟨q0, q1, qP, qK, qD⟩ := q; exact ⟨q0, q1, qP, va_K.moved (u := U) (U := U.calling g mk a) (Vm.Alike.refl U.vm) qK, qD⟩, va_recv hKc hPc (ci := 7) (q0 := 0) rfl rfl, fun U hU hW => ⟨rfl, by rw [hU], by rw [hU]; exact hPc, va_K.moved hW.alike hKc, hDc.weaken (fun _ _ _ _ => trivial)⟩⟩ rfl rfl hl.1 rfl (lv_room (Nat.le_of_ble_eq_true rfl)) dX7_jumpTo_1 ⟨Nat.le_of_ble_eq_true rfl, Nat.le_of_ble_eq_true rfl⟩) hS (fun q _ h => hFc q h) hFc (fun r9 u9 t H1 locs ht hvm hw hB hz1 hk1 hS => ?_)
  obtain ⟨rfl, rfl⟩ := hw
  obtain ⟨hP1, hK1, hD1⟩ := hB
  rw [ht] at hP1
  obtain ⟨hP, hD⟩ := jM_M hP hD hk1 hFc hP1 hD1
  clear hPc hDc hKc hFc hz1 hk1 hP1 hK1 hD1 ht hvm
  generalize H1 = H at hP hS ⊢
  refine lv_istore (lv' := [(4, .int (f_X7_nextWord u).1), (0, .ref mO), (1, .int (bI a1)), (2, .int (bI a2)), (3, .int a3)]) hx hb dX7_jumpTo_4 hl (by decide) rfl (fun ls hl => ?_)
  refine lv_aload_n hx hb dX7_jumpTo_6 rfl (lv_at hl 1 rfl) ?_
  refine lv_iload_n hx hb dX7_jumpTo_7 rfl (lv_at hl 4 rfl) ?_
  refine va_put (D := (dC, dI)) (ci := 7) (v := .int a3) (ty := .int) (C := RX7) (T := TX7) (N := 30) hx hb hts iX7_jumpTo_X7 tyX7 tyX7_ok nmX7 hown hK hP hD hS 0 rfl rfl 16 (by decide) (hts _ qX7_jumpTo_0) (fun _ h9 => h9) rfl (by decide +kernel) rfl rfl (Nat.le_of_ble_eq_true rfl) dX7_jumpTo_8 (fun H locs hP hD hS => ?_)
  obtain ⟨hP, hD⟩ := pM_spent hP hD
  refine lv_iload_n hx hb dX7_jumpTo_11 rfl (lv_at hl 2 rfl) ?_
  refine lv_if_eq (tgt := 27) hx hb dX7_jumpTo_12 (by decide) (fun c1 => ?_) (fun c1 => ?_)
  · skip
    refine lv_aload_n hx hb dX7_jumpTo_27 rfl (lv_at hl 1 rfl) ?_
    refine lv_iload_n hx hb dX7_jumpTo_28 rfl (lv_at hl 2 rfl) ?_
    refine jn_i (D := (dC, dI)) (cl := vwCl) (ws := (wM cI mO memA dskA rgA inA outA (sMW_spent (f_X7_nextWord u).2 a3))) (A := A) (H0 := s.heap) (nL := 5) 41 (if (bI a1) = (0 : Int32) then (gMW_pc (sMW_spent (f_X7_nextWord u).2 a3)) else (f_X7_nextWord u).1 : Int32) [(0, .ref mO), (1, .int (bI a1)), (2, .int (bI a2)), (3, .int a3), (4, .int (f_X7_nextWord u).1)] [.ref mO] (fun H locs ls hP hS hl => ?_) (fun hJ2 => ?_)
    · skip
      refine va_put (D := (dC, dI)) (ci := 7) (v := .int (if (bI a1) = (0 : Int32) then (gMW_pc (sMW_spent (f_X7_nextWord u).2 a3)) else (f_X7_nextWord u).1 : Int32)) (ty := .int) (C := RX7) (T := TX7) (N := 30) hx hb hts iX7_jumpTo_X7 tyX7 tyX7_ok nmX7 hown hK hP hD hS 0 rfl rfl 9 (by decide) (hts _ qX7_jumpTo_1) (fun _ h9 => h9) rfl (by decide +kernel) rfl rfl (Nat.le_of_ble_eq_true rfl) dX7_jumpTo_41 (fun H locs hP hD hS => ?_)
      obtain ⟨hP, hD⟩ := pM_pc hP hD
      exact W.vret hx hb hr (fun t ht hW => ⟨⟨(sMW_pc (sMW_spent (f_X7_nextWord u).2 a3) (if (bI a1) = (0 : Int32) then (gMW_pc (sMW_spent (f_X7_nextWord u).2 a3)) else (f_X7_nextWord u).1 : Int32)), rfl, (by simp only [f_X7_jumpTo, if_pos c1]), by rw [ht]; exact hP, va_K.moved hW.alike hK, hD⟩, hS.F ht⟩) hS.2.2 dX7_jumpTo_44
    · skip
      refine lv_if_eq (tgt := 37) hx hb dX7_jumpTo_29 (by decide) (fun c3 => ?_) (fun c3 => ?_)
      · skip
        refine lv_aload_n hx hb dX7_jumpTo_37 rfl (lv_at hl 1 rfl) ?_
        refine va_get (D := (dC, dI)) (ci := 7) (v := .int (gMW_pc (sMW_spent (f_X7_nextWord u).2 a3))) (C := RX7) (T := TX7) (N := 30) hx hb hts iX7_jumpTo_X7 hown hK hP 0 rfl rfl 9 (by decide) (hts _ qX7_jumpTo_1) (fun _ h9 => h9) rfl dX7_jumpTo_38 ?_
        exact hJ2 (gMW_pc (sMW_spent (f_X7_nextWord u).2 a3)) _ _ _ (by simp only [if_pos c3]) hP hS (lv_sub hl [1, 2, 3, 4, 0] rfl)
      · skip
        refine lv_iload hx hb dX7_jumpTo_32 (lv_at hl 0 rfl) ?_
        refine lv_goto (tgt := 41) hx hb dX7_jumpTo_34 (by decide) ?_
        exact hJ2 (f_X7_nextWord u).1 _ _ _ (by simp only [if_neg c3]) hP hS (lv_sub hl [1, 2, 3, 4, 0] rfl)
  · skip
    refine lv_iload_n hx hb dX7_jumpTo_15 rfl (lv_at hl 3 rfl) ?_
    refine lv_if_eq (tgt := 27) hx hb dX7_jumpTo_16 (by decide) (fun c4 => ?_) (fun c4 => ?_)
    · skip
      refine lv_aload_n hx hb dX7_jumpTo_27 rfl (lv_at hl 1 rfl) ?_
      refine lv_iload_n hx hb dX7_jumpTo_28 rfl (lv_at hl 2 rfl) ?_
      refine jn_i (D := (dC, dI)) (cl := vwCl) (ws := (wM cI mO memA dskA rgA inA outA (sMW_spent (f_X7_nextWord u).2 a3))) (A := A) (H0 := s.heap) (nL := 5) 41 (if (bI a1) = (0 : Int32) then (gMW_pc (sMW_spent (f_X7_nextWord u).2 a3)) else (f_X7_nextWord u).1 : Int32) [(0, .ref mO), (1, .int (bI a1)), (2, .int (bI a2)), (3, .int a3), (4, .int (f_X7_nextWord u).1)] [.ref mO] (fun H locs ls hP hS hl => ?_) (fun hJ5 => ?_)
      · skip
        refine va_put (D := (dC, dI)) (ci := 7) (v := .int (if (bI a1) = (0 : Int32) then (gMW_pc (sMW_spent (f_X7_nextWord u).2 a3)) else (f_X7_nextWord u).1 : Int32)) (ty := .int) (C := RX7) (T := TX7) (N := 30) hx hb hts iX7_jumpTo_X7 tyX7 tyX7_ok nmX7 hown hK hP hD hS 0 rfl rfl 9 (by decide) (hts _ qX7_jumpTo_1) (fun _ h9 => h9) rfl (by decide +kernel) rfl rfl (Nat.le_of_ble_eq_true rfl) dX7_jumpTo_41 (fun H locs hP hD hS => ?_)
        obtain ⟨hP, hD⟩ := pM_pc hP hD
        exact W.vret hx hb hr (fun t ht hW => ⟨⟨(sMW_pc (sMW_spent (f_X7_nextWord u).2 a3) (if (bI a1) = (0 : Int32) then (gMW_pc (sMW_spent (f_X7_nextWord u).2 a3)) else (f_X7_nextWord u).1 : Int32)), rfl, (by simp only [f_X7_jumpTo, if_neg c1, if_pos c4]), by rw [ht]; exact hP, va_K.moved hW.alike hK, hD⟩, hS.F ht⟩) hS.2.2 dX7_jumpTo_44
      · skip
        refine lv_if_eq (tgt := 37) hx hb dX7_jumpTo_29 (by decide) (fun c6 => ?_) (fun c6 => ?_)
        · skip
          refine lv_aload_n hx hb dX7_jumpTo_37 rfl (lv_at hl 1 rfl) ?_
          refine va_get (D := (dC, dI)) (ci := 7) (v := .int (gMW_pc (sMW_spent (f_X7_nextWord u).2 a3))) (C := RX7) (T := TX7) (N := 30) hx hb hts iX7_jumpTo_X7 hown hK hP 0 rfl rfl 9 (by decide) (hts _ qX7_jumpTo_1) (fun _ h9 => h9) rfl dX7_jumpTo_38 ?_
          exact hJ5 (gMW_pc (sMW_spent (f_X7_nextWord u).2 a3)) _ _ _ (by simp only [if_pos c6]) hP hS (lv_sub hl [1, 2, 3, 4, 0] rfl)
        · skip
          refine lv_iload hx hb dX7_jumpTo_32 (lv_at hl 0 rfl) ?_
          refine lv_goto (tgt := 41) hx hb dX7_jumpTo_34 (by decide) ?_
          exact hJ5 (f_X7_nextWord u).1 _ _ _ (by simp only [if_neg c6]) hP hS (lv_sub hl [1, 2, 3, 4, 0] rfl)
    · skip
      refine lv_aload_n hx hb dX7_jumpTo_19 rfl (lv_at hl 1 rfl) ?_
      refine lv_aload_n hx hb dX7_jumpTo_20 rfl (lv_at hl 1 rfl) ?_
      refine va_get (D := (dC, dI)) (ci := 7) (v := .int (gMW_pc (sMW_spent (f_X7_nextWord u).2 a3))) (C := RX7) (T := TX7) (N := 30) hx hb hts iX7_jumpTo_X7 hown hK hP 0 rfl rfl 9 (by decide) (hts _ qX7_jumpTo_1) (fun _ h9 => h9) rfl dX7_jumpTo_21 ?_
      obtain ⟨hPc, hDc, hFc⟩ := xM_M hP hD hS hA
      have hKc := hK.sub (tys' := [(cI, .int)]) [0] rfl
      refine va_callv (va_runV (As := [.int (gMW_pc (sMW_spent (f_X7_nextWord u).2 a3))]) (rest := []) ⟨hx, hb, hml, hown, hts⟩ (k_X7_push l dC dI cI mO memA dskA rgA inA outA H.size (sMW_spent (f_X7_nextWord u).2 a3) (gMW_pc (sMW_spent (f_X7_nextWord u).2 a3))) (cwV 1 hts gX7_jumpTo_X7_push rfl rfl rfl (by decide +kernel) ⟨Nat.le_of_ble_eq_true rfl, Nat.le_of_ble_eq_true rfl⟩) ⟨fun a U g mk q => by obtain ⟨q0, q1, qP, qK, qD⟩ := q; exact ⟨q0, q1, qP, va_K.moved (u := U) (U := U.calling g mk a) (Vm.Alike.refl U.vm) qK, qD⟩, va_recv hKc hPc (ci := 7) (q0 := 0) rfl rfl, fun U hU hW => ⟨rfl, by rw [hU], by rw [hU]; exact hPc, va_K.moved hW.alike hKc, hDc.weaken (fun _ _ _ _ => trivial)⟩⟩ rfl rfl hl.1 rfl (lv_room (Nat.le_of_ble_eq_true rfl)) dX7_jumpTo_24 ⟨Nat.le_of_ble_eq_true rfl, Nat.le_of_ble_eq_true rfl⟩) hS (fun q _ h => hFc q h) hFc (fun u9 t H1 locs ht hvm hw hB hz1 hk1 hS => ?_)
      subst hw
      obtain ⟨hP1, hK1, hD1⟩ := hB
      rw [ht] at hP1
      obtain ⟨hP, hD⟩ := jM_M hP hD hk1 hFc hP1 hD1
      clear hPc hDc hKc hFc hz1 hk1 hP1 hK1 hD1 ht hvm
      generalize H1 = H at hP hS ⊢
      refine lv_aload_n hx hb dX7_jumpTo_27 rfl (lv_at hl 1 rfl) ?_
      refine lv_iload_n hx hb dX7_jumpTo_28 rfl (lv_at hl 2 rfl) ?_
      refine jn_i (D := (dC, dI)) (cl := vwCl) (ws := (wM cI mO memA dskA rgA inA outA (f_X7_push (sMW_spent (f_X7_nextWord u).2 a3) (gMW_pc (sMW_spent (f_X7_nextWord u).2 a3))))) (A := A) (H0 := s.heap) (nL := 5) 41 (if (bI a1) = (0 : Int32) then (gMW_pc (f_X7_push (sMW_spent (f_X7_nextWord u).2 a3) (gMW_pc (sMW_spent (f_X7_nextWord u).2 a3)))) else (f_X7_nextWord u).1 : Int32) [(0, .ref mO), (1, .int (bI a1)), (2, .int (bI a2)), (3, .int a3), (4, .int (f_X7_nextWord u).1)] [.ref mO] (fun H locs ls hP hS hl => ?_) (fun hJ7 => ?_)
      · skip
        refine va_put (D := (dC, dI)) (ci := 7) (v := .int (if (bI a1) = (0 : Int32) then (gMW_pc (f_X7_push (sMW_spent (f_X7_nextWord u).2 a3) (gMW_pc (sMW_spent (f_X7_nextWord u).2 a3)))) else (f_X7_nextWord u).1 : Int32)) (ty := .int) (C := RX7) (T := TX7) (N := 30) hx hb hts iX7_jumpTo_X7 tyX7 tyX7_ok nmX7 hown hK hP hD hS 0 rfl rfl 9 (by decide) (hts _ qX7_jumpTo_1) (fun _ h9 => h9) rfl (by decide +kernel) rfl rfl (Nat.le_of_ble_eq_true rfl) dX7_jumpTo_41 (fun H locs hP hD hS => ?_)
        obtain ⟨hP, hD⟩ := pM_pc hP hD
        exact W.vret hx hb hr (fun t ht hW => ⟨⟨(sMW_pc (f_X7_push (sMW_spent (f_X7_nextWord u).2 a3) (gMW_pc (sMW_spent (f_X7_nextWord u).2 a3))) (if (bI a1) = (0 : Int32) then (gMW_pc (f_X7_push (sMW_spent (f_X7_nextWord u).2 a3) (gMW_pc (sMW_spent (f_X7_nextWord u).2 a3)))) else (f_X7_nextWord u).1 : Int32)), rfl, (by simp only [f_X7_jumpTo, if_neg c1, if_neg c4]), by rw [ht]; exact hP, va_K.moved hW.alike hK, hD⟩, hS.F ht⟩) hS.2.2 dX7_jumpTo_44
      · skip
        refine lv_if_eq (tgt := 37) hx hb dX7_jumpTo_29 (by decide) (fun c8 => ?_) (fun c8 => ?_)
        · skip
          refine lv_aload_n hx hb dX7_jumpTo_37 rfl (lv_at hl 1 rfl) ?_
          refine va_get (D := (dC, dI)) (ci := 7) (v := .int (gMW_pc (f_X7_push (sMW_spent (f_X7_nextWord u).2 a3) (gMW_pc (sMW_spent (f_X7_nextWord u).2 a3))))) (C := RX7) (T := TX7) (N := 30) hx hb hts iX7_jumpTo_X7 hown hK hP 0 rfl rfl 9 (by decide) (hts _ qX7_jumpTo_1) (fun _ h9 => h9) rfl dX7_jumpTo_38 ?_
          exact hJ7 (gMW_pc (f_X7_push (sMW_spent (f_X7_nextWord u).2 a3) (gMW_pc (sMW_spent (f_X7_nextWord u).2 a3)))) _ _ _ (by simp only [if_pos c8]) hP hS (lv_sub hl [1, 2, 3, 4, 0] rfl)
        · skip
          refine lv_iload hx hb dX7_jumpTo_32 (lv_at hl 0 rfl) ?_
          refine lv_goto (tgt := 41) hx hb dX7_jumpTo_34 (by decide) ?_
          exact hJ7 (f_X7_nextWord u).1 _ _ _ (by simp only [if_neg c8]) hP hS (lv_sub hl [1, 2, 3, 4, 0] rfl)

def f_X7_single (u : MW) (a1 : Int32) : MW := 
  if a1 = (6 : Int32) then (f_X7_setFlags (sMW_r (f_X7_pop (sMW_spent u (if a1 = (5 : Int32) then 5 else (if a1 = (7 : Int32) then 5 else 10 : Int32) : Int32))).2 (upd (gMW_r (f_X7_pop (sMW_spent u (if a1 = (5 : Int32) then 5 else (if a1 = (7 : Int32) then 5 else 10 : Int32) : Int32))).2) (7 : Int32).toNatClampNeg ((f_X7_pop (sMW_spent u (if a1 = (5 : Int32) then 5 else (if a1 = (7 : Int32) then 5 else 10 : Int32) : Int32))).1 >>> ((8 : Int32) &&& 31)))) (f_X7_pop (sMW_spent u (if a1 = (5 : Int32) then 5 else (if a1 = (7 : Int32) then 5 else 10 : Int32) : Int32))).1)
  else 
    if (a1 - a1 / (2 : Int32) * (2 : Int32)) = (0 : Int32) then (f_X7_setPair (f_X7_pop (sMW_spent u (if a1 = (5 : Int32) then 5 else (if a1 = (7 : Int32) then 5 else 10 : Int32) : Int32))).2 (a1 / (2 : Int32)) (f_X7_pop (sMW_spent u (if a1 = (5 : Int32) then 5 else (if a1 = (7 : Int32) then 5 else 10 : Int32) : Int32))).1)
    else 
      if (4 : Int32) ≤ a1 then 
        if a1 = (5 : Int32) then (sMW_pc (sMW_spent u (if a1 = (5 : Int32) then 5 else (if a1 = (7 : Int32) then 5 else 10 : Int32) : Int32)) (f_X7_hl (sMW_spent u (if a1 = (5 : Int32) then 5 else (if a1 = (7 : Int32) then 5 else 10 : Int32) : Int32))))
        else (sMW_sp (sMW_spent u (if a1 = (5 : Int32) then 5 else (if a1 = (7 : Int32) then 5 else 10 : Int32) : Int32)) (f_X7_hl (sMW_spent u (if a1 = (5 : Int32) then 5 else (if a1 = (7 : Int32) then 5 else 10 : Int32) : Int32))))
      else (sMW_pc (f_X7_pop (sMW_spent u (if a1 = (5 : Int32) then 5 else (if a1 = (7 : Int32) then 5 else 10 : Int32) : Int32))).2 (f_X7_pop (sMW_spent u (if a1 = (5 : Int32) then 5 else (if a1 = (7 : Int32) then 5 else 10 : Int32) : Int32))).1)
theorem qX7_single_0 : Cond.fieldLink RX7 141 "DiskMachineModel" "spent" "I" ∈ wsX7_single := by decide +kernel
theorem qX7_single_1 : Cond.fieldLink RX7 55 "DiskMachineModel" "sp" "I" ∈ wsX7_single := by decide +kernel
theorem qX7_single_2 : Cond.fieldLink RX7 47 "DiskMachineModel" "pc" "I" ∈ wsX7_single := by decide +kernel
theorem qX7_single_3 : Cond.fieldLink RX7 16 "DiskMachineModel" "\x72" "[I" ∈ wsX7_single := by decide +kernel
theorem iX7_single_X7 : ∀ w ∈ wsX70, w ∈ wsX7_single := by decide +kernel
set_option maxHeartbeats 4000000 in
set_option maxRecDepth 100000 in
theorem k_X7_single (l : Launch) (dC : Nat → ClassId) (dI : Nat → Nat → Nat) (cI : ClassId) (mO memA dskA rgA inA outA : Nat) (sz : Nat) (u : MW) (a1 : Int32) (h1 : vp_in a1 8) : Met l yX7_single wsX7_single ({ frames := 3, cells := 0, slots := 0, locals := 63 }) (va_Pc [.ref mO, .int a1] (wB dC dI [(cI, .int)] sz (wM cI mO memA dskA rgA inA outA u))) (va_Qv (fun u' : MW => u' = (f_X7_single u a1)) (fun u' => wE dC dI [(cI, .int)] (va_A (wM cI mO memA dskA rgA inA outA u) sz) (wM cI mO memA dskA rgA inA outA u')) (va_A (wM cI mO memA dskA rgA inA outA u) sz)) 0 0 (va_A (wM cI mO memA dskA rgA inA outA u) sz) := by
  refine Met.ofW (cc := cX7_single) (maxL := 3) (ret := none) (by decide) rfl ?_
  intro p e s m args below meth c s₁ B hml hv
  obtain ⟨rfl, hsz, hP, hK, hD0⟩ := hv
  have hx := B.exec
  have hb := B.bytes
  have hr := B.returns
  have hts := atoms_spec (ws := wsX7_single) B.pre
  have hown : s.vm.findClass RX7 = some m.cls := findClass_of_methodNamed B.named
  have hlocks := B.notSynchronized
  subst hsz
  have hD := hD0.self (sz := s.heap.size)
  generalize hAe : va_A (wM cI mO memA dskA rgA inA outA u) s.heap.size = A at hD ⊢
  have hA : ∀ q : Nat, s.heap.size ≤ q → A q := fun q h => by rw [← hAe]; exact Or.inr h
  have hS : va_S A s.heap s.heap [] := va_S.rf
  have hP : va_P (dC, dI) vwCl (wM cI mO memA dskA rgA inA outA u) s.heap := hP
  clear hAe hD0
  have hl := lv_entry ([.ref mO, .int a1]) (n := 3) (Nat.le_of_ble_eq_true rfl)
  rw [lg_entry_eq]
  generalize (lg_sl ([.ref mO, .int a1]) ++ List.replicate (3 - (lg_sl ([.ref mO, .int a1])).length) Slot.unset).toArray = ls at hl ⊢
  have hl : lv_has ls 3 [(0, .ref mO), (1, .int a1)] := hl
  refine jn_H hP hS (fun H locs hP hS => ?_)
  refine lv_aload_n hx hb dX7_single_0 rfl (lv_at hl 0 rfl) ?_
  refine lv_iload_n hx hb dX7_single_1 rfl (lv_at hl 1 rfl) ?_
  refine lv_iconst (v := 5) hx hb dX7_single_2 (by decide) ?_
  refine jn_i (D := (dC, dI)) (cl := vwCl) (ws := (wM cI mO memA dskA rgA inA outA u)) (A := A) (H0 := s.heap) (nL := 3) 18 (if a1 = (5 : Int32) then 5 else (if a1 = (7 : Int32) then 5 else 10 : Int32) : Int32) [(0, .ref mO), (1, .int a1)] [.ref mO] (fun H locs ls hP hS hl => ?_) (fun hJ1 => ?_)
  · skip
    refine va_put (D := (dC, dI)) (ci := 7) (v := .int (if a1 = (5 : Int32) then 5 else (if a1 = (7 : Int32) then 5 else 10 : Int32) : Int32)) (ty := .int) (C := RX7) (T := TX7) (N := 30) hx hb hts iX7_single_X7 tyX7 tyX7_ok nmX7 hown hK hP hD hS 0 rfl rfl 16 (by decide) (hts _ qX7_single_0) (fun _ h9 => h9) rfl (by decide +kernel) rfl rfl (Nat.le_of_ble_eq_true rfl) dX7_single_18 (fun H locs hP hD hS => ?_)
    obtain ⟨hP, hD⟩ := pM_spent hP hD
    refine lv_iload_n hx hb dX7_single_21 rfl (lv_at hl 1 rfl) ?_
    refine lv_bipush (v := 6) hx hb dX7_single_22 (by decide) ?_
    refine lv_icmp_ne (tgt := 51) hx hb dX7_single_24 (by decide) (fun c2 => ?_) (fun c2 => ?_)
    · skip
      refine lv_iload_n hx hb dX7_single_51 rfl (lv_at hl 1 rfl) ?_
      refine lv_iconst (v := 2) hx hb dX7_single_52 (by decide) ?_
      refine lv_irem hx hb dX7_single_53 (by decide) ?_
      refine lv_if_ne (tgt := 71) hx hb dX7_single_54 (by decide) (fun c3 => ?_) (fun c3 => ?_)
      · skip
        refine lv_iload_n hx hb dX7_single_71 rfl (lv_at hl 1 rfl) ?_
        refine lv_iconst (v := 4) hx hb dX7_single_72 (by decide) ?_
        refine lv_icmp_ge (tgt := 87) hx hb dX7_single_73 (by decide) (fun c4 => ?_) (fun c4 => ?_)
        · skip
          refine lv_iload_n hx hb dX7_single_87 rfl (lv_at hl 1 rfl) ?_
          refine lv_iconst (v := 5) hx hb dX7_single_88 (by decide) ?_
          refine lv_icmp_ne (tgt := 103) hx hb dX7_single_89 (by decide) (fun c5 => ?_) (fun c5 => ?_)
          · skip
            refine lv_aload_n hx hb dX7_single_103 rfl (lv_at hl 0 rfl) ?_
            refine lv_aload_n hx hb dX7_single_104 rfl (lv_at hl 0 rfl) ?_
            obtain ⟨hPc, hDc, hFc⟩ := xM_M hP hD hS hA
            have hKc := hK.sub (tys' := [(cI, .int)]) [0] rfl
            refine va_calli (va_runV (As := []) (rest := [.ref mO]) ⟨hx, hb, hml, hown, hts⟩ (k_X7_hl l dC dI cI mO memA dskA rgA inA outA H.size (sMW_spent u (if a1 = (5 : Int32) then 5 else (if a1 = (7 : Int32) then 5 else 10 : Int32) : Int32))) (cwV 0 hts gX7_single_X7_hl rfl rfl rfl (by decide +kernel) ⟨Nat.le_of_ble_eq_true rfl, Nat.le_of_ble_eq_true rfl⟩) ⟨fun a U g mk q => by obtain ⟨q0, q1, qP, qK, qD⟩ := q; exact ⟨q0, q1, qP, va_K.moved (u := U) (U := U.calling g mk a) (Vm.Alike.refl U.vm) qK, qD⟩, va_recv hKc hPc (ci := 7) (q0 := 0) rfl rfl, fun U hU hW => ⟨rfl, by rw [hU], by rw [hU]; exact hPc, va_K.moved hW.alike hKc, hDc.weaken (fun _ _ _ _ => trivial)⟩⟩ rfl rfl hl.1 rfl (lv_room (Nat.le_of_ble_eq_true rfl)) dX7_single_105 ⟨Nat.le_of_ble_eq_true rfl, Nat.le_of_ble_eq_true rfl⟩) hS (fun q _ h => hFc q h) hFc (fun r9 u9 t H1 locs ht hvm hw hB hz1 hk1 hS => ?_)
            obtain ⟨hw1, hw2⟩ := hw
            have hw2 := hw2.symm
            subst hw1 hw2
            obtain ⟨hP1, hK1, hD1⟩ := hB
            rw [ht] at hP1
            obtain ⟨hP, hD⟩ := jM_M0 hP hD hk1 hFc hP1 hD1
            clear hPc hDc hKc hFc hz1 hk1 hP1 hK1 hD1 ht hvm
            generalize H1 = H at hP hS ⊢
            refine va_put (D := (dC, dI)) (ci := 7) (v := .int (f_X7_hl (sMW_spent u (if a1 = (5 : Int32) then 5 else (if a1 = (7 : Int32) then 5 else 10 : Int32) : Int32)))) (ty := .int) (C := RX7) (T := TX7) (N := 30) hx hb hts iX7_single_X7 tyX7 tyX7_ok nmX7 hown hK hP hD hS 0 rfl rfl 10 (by decide) (hts _ qX7_single_1) (fun _ h9 => h9) rfl (by decide +kernel) rfl rfl (Nat.le_of_ble_eq_true rfl) dX7_single_108 (fun H locs hP hD hS => ?_)
            obtain ⟨hP, hD⟩ := pM_sp hP hD
            exact W.vret hx hb hr (fun t ht hW => ⟨⟨(sMW_sp (sMW_spent u (if a1 = (5 : Int32) then 5 else (if a1 = (7 : Int32) then 5 else 10 : Int32) : Int32)) (f_X7_hl (sMW_spent u (if a1 = (5 : Int32) then 5 else (if a1 = (7 : Int32) then 5 else 10 : Int32) : Int32)))), rfl, (by simp only [f_X7_single, if_neg c2, if_neg c3, if_pos c4, if_neg c5]), by rw [ht]; exact hP, va_K.moved hW.alike hK, hD⟩, hS.F ht⟩) hS.2.2 dX7_single_111
          · skip
            refine lv_aload_n hx hb dX7_single_92 rfl (lv_at hl 0 rfl) ?_
            refine lv_aload_n hx hb dX7_single_93 rfl (lv_at hl 0 rfl) ?_
            obtain ⟨hPc, hDc, hFc⟩ := xM_M hP hD hS hA
            have hKc := hK.sub (tys' := [(cI, .int)]) [0] rfl
            refine va_calli (va_runV (As := []) (rest := [.ref mO]) ⟨hx, hb, hml, hown, hts⟩ (k_X7_hl l dC dI cI mO memA dskA rgA inA outA H.size (sMW_spent u (if a1 = (5 : Int32) then 5 else (if a1 = (7 : Int32) then 5 else 10 : Int32) : Int32))) (cwV 0 hts gX7_single_X7_hl rfl rfl rfl (by decide +kernel) ⟨Nat.le_of_ble_eq_true rfl, Nat.le_of_ble_eq_true rfl⟩) ⟨fun a U g mk q => by obtain ⟨q0, q1, qP, qK, qD⟩ := q; exact ⟨q0, q1, qP, va_K.moved (u := U) (U := U.calling g mk a) (Vm.Alike.refl U.vm) qK, qD⟩, va_recv hKc hPc (ci := 7) (q0 := 0) rfl rfl, fun U hU hW => ⟨rfl, by rw [hU], by rw [hU]; exact hPc, va_K.moved hW.alike hKc, hDc.weaken (fun _ _ _ _ => trivial)⟩⟩ rfl rfl hl.1 rfl (lv_room (Nat.le_of_ble_eq_true rfl)) dX7_single_94 ⟨Nat.le_of_ble_eq_true rfl, Nat.le_of_ble_eq_true rfl⟩) hS (fun q _ h => hFc q h) hFc (fun r9 u9 t H1 locs ht hvm hw hB hz1 hk1 hS => ?_)
            obtain ⟨hw1, hw2⟩ := hw
            have hw2 := hw2.symm
            subst hw1 hw2
            obtain ⟨hP1, hK1, hD1⟩ := hB
            rw [ht] at hP1
            obtain ⟨hP, hD⟩ := jM_M0 hP hD hk1 hFc hP1 hD1
            clear hPc hDc hKc hFc hz1 hk1 hP1 hK1 hD1 ht hvm
            generalize H1 = H at hP hS ⊢
            refine va_put (D := (dC, dI)) (ci := 7) (v := .int (f_X7_hl (sMW_spent u (if a1 = (5 : Int32) then 5 else (if a1 = (7 : Int32) then 5 else 10 : Int32) : Int32)))) (ty := .int) (C := RX7) (T := TX7) (N := 30) hx hb hts iX7_single_X7 tyX7 tyX7_ok nmX7 hown hK hP hD hS 0 rfl rfl 9 (by decide) (hts _ qX7_single_2) (fun _ h9 => h9) rfl (by decide +kernel) rfl rfl (Nat.le_of_ble_eq_true rfl) dX7_single_97 (fun H locs hP hD hS => ?_)
            obtain ⟨hP, hD⟩ := pM_pc hP hD
            refine lv_goto (tgt := 111) hx hb dX7_single_100 (by decide) ?_
            exact W.vret hx hb hr (fun t ht hW => ⟨⟨(sMW_pc (sMW_spent u (if a1 = (5 : Int32) then 5 else (if a1 = (7 : Int32) then 5 else 10 : Int32) : Int32)) (f_X7_hl (sMW_spent u (if a1 = (5 : Int32) then 5 else (if a1 = (7 : Int32) then 5 else 10 : Int32) : Int32)))), rfl, (by simp only [f_X7_single, if_neg c2, if_neg c3, if_pos c4, if_pos c5]), by rw [ht]; exact hP, va_K.moved hW.alike hK, hD⟩, hS.F ht⟩) hS.2.2 dX7_single_111
        · skip
          refine lv_aload_n hx hb dX7_single_76 rfl (lv_at hl 0 rfl) ?_
          refine lv_aload_n hx hb dX7_single_77 rfl (lv_at hl 0 rfl) ?_
          obtain ⟨hPc, hDc, hFc⟩ := xM_M hP hD hS hA
          have hKc := hK.sub (tys' := [(cI, .int)]) [0] rfl
          refine va_calli (va_runV (As := []) (rest := [.ref mO]) ⟨hx, hb, hml, hown, hts⟩ (k_X7_pop l dC dI cI mO memA dskA rgA inA outA H.size (sMW_spent u (if a1 = (5 : Int32) then 5 else (if a1 = (7 : Int32) then 5 else 10 : Int32) : Int32))) (cwV 0 hts gX7_single_X7_pop rfl rfl rfl (by decide +kernel) ⟨Nat.le_of_ble_eq_true rfl, Nat.le_of_ble_eq_true rfl⟩) ⟨fun a U g mk q => by obtain ⟨q0, q1, qP, qK, qD⟩ := q; exact ⟨q0, q1, qP, va_K.moved (u := U) (U := U.calling g mk a) (Vm.Alike.refl U.vm) qK, qD⟩, va_recv hKc hPc (ci := 7) (q0 := 0) rfl rfl, fun U hU hW => ⟨rfl, by rw [hU], by rw [hU]; exact hPc, va_K.moved hW.alike hKc, hDc.weaken (fun _ _ _ _ => trivial)⟩⟩ rfl rfl hl.1 rfl (lv_room (Nat.le_of_ble_eq_true rfl)) dX7_single_78 ⟨Nat.le_of_ble_eq_true rfl, Nat.le_of_ble_eq_true rfl⟩) hS (fun q _ h => hFc q h) hFc (fun r9 u9 t H1 locs ht hvm hw hB hz1 hk1 hS => ?_)
          obtain ⟨rfl, rfl⟩ := hw
          obtain ⟨hP1, hK1, hD1⟩ := hB
          rw [ht] at hP1
          obtain ⟨hP, hD⟩ := jM_M hP hD hk1 hFc hP1 hD1
          clear hPc hDc hKc hFc hz1 hk1 hP1 hK1 hD1 ht hvm
          generalize H1 = H at hP hS ⊢
          refine va_put (D := (dC, dI)) (ci := 7) (v := .int (f_X7_pop (sMW_spent u (if a1 = (5 : Int32) then 5 else (if a1 = (7 : Int32) then 5 else 10 : Int32) : Int32))).1) (ty := .int) (C := RX7) (T := TX7) (N := 30) hx hb hts iX7_single_X7 tyX7 tyX7_ok nmX7 hown hK hP hD hS 0 rfl rfl 9 (by decide) (hts _ qX7_single_2) (fun _ h9 => h9) rfl (by decide +kernel) rfl rfl (Nat.le_of_ble_eq_true rfl) dX7_single_81 (fun H locs hP hD hS => ?_)
          obtain ⟨hP, hD⟩ := pM_pc hP hD
          refine lv_goto (tgt := 111) hx hb dX7_single_84 (by decide) ?_
          exact W.vret hx hb hr (fun t ht hW => ⟨⟨(sMW_pc (f_X7_pop (sMW_spent u (if a1 = (5 : Int32) then 5 else (if a1 = (7 : Int32) then 5 else 10 : Int32) : Int32))).2 (f_X7_pop (sMW_spent u (if a1 = (5 : Int32) then 5 else (if a1 = (7 : Int32) then 5 else 10 : Int32) : Int32))).1), rfl, (by simp only [f_X7_single, if_neg c2, if_neg c3, if_neg c4]), by rw [ht]; exact hP, va_K.moved hW.alike hK, hD⟩, hS.F ht⟩) hS.2.2 dX7_single_111
      · skip
        refine lv_aload_n hx hb dX7_single_57 rfl (lv_at hl 0 rfl) ?_
        refine lv_iload_n hx hb dX7_single_58 rfl (lv_at hl 1 rfl) ?_
        refine lv_iconst (v := 2) hx hb dX7_single_59 (by decide) ?_
        refine lv_idiv hx hb dX7_single_60 (by decide) ?_
        refine lv_aload_n hx hb dX7_single_61 rfl (lv_at hl 0 rfl) ?_
        obtain ⟨hPc, hDc, hFc⟩ := xM_M hP hD hS hA
        have hKc := hK.sub (tys' := [(cI, .int)]) [0] rfl
        refine va_calli (va_runV (As := []) (rest := [.int (a1 / (2 : Int32)), .ref mO]) ⟨hx, hb, hml, hown, hts⟩ (k_X7_pop l dC dI cI mO memA dskA rgA inA outA H.size (sMW_spent u (if a1 = (5 : Int32) then 5 else (if a1 = (7 : Int32) then 5 else 10 : Int32) : Int32))) (cwV 0 hts gX7_single_X7_pop rfl rfl rfl (by decide +kernel) ⟨Nat.le_of_ble_eq_true rfl, Nat.le_of_ble_eq_true rfl⟩) ⟨fun a U g mk q => by obtain ⟨q0, q1, qP, qK, qD⟩ := q; exact ⟨q0, q1, qP, va_K.moved (u := U) (U := U.calling g mk a) (Vm.Alike.refl U.vm) qK, qD⟩, va_recv hKc hPc (ci := 7) (q0 := 0) rfl rfl, fun U hU hW => ⟨rfl, by rw [hU], by rw [hU]; exact hPc, va_K.moved hW.alike hKc, hDc.weaken (fun _ _ _ _ => trivial)⟩⟩ rfl rfl hl.1 rfl (lv_room (Nat.le_of_ble_eq_true rfl)) dX7_single_62 ⟨Nat.le_of_ble_eq_true rfl, Nat.le_of_ble_eq_true rfl⟩) hS (fun q _ h => hFc q h) hFc (fun r9 u9 t H1 locs ht hvm hw hB hz1 hk1 hS => ?_)
        obtain ⟨rfl, rfl⟩ := hw
        obtain ⟨hP1, hK1, hD1⟩ := hB
        rw [ht] at hP1
        obtain ⟨hP, hD⟩ := jM_M hP hD hk1 hFc hP1 hD1
        clear hPc hDc hKc hFc hz1 hk1 hP1 hK1 hD1 ht hvm
        generalize H1 = H at hP hS ⊢
        obtain ⟨hPc, hDc, hFc⟩ := xM_M hP hD hS hA
        have hKc := hK.sub (tys' := [(cI, .int)]) [0] rfl
        refine va_callv (va_runV (As := [.int (a1 / (2 : Int32)), .int (f_X7_pop (sMW_spent u (if a1 = (5 : Int32) then 5 else (if a1 = (7 : Int32) then 5 else 10 : Int32) : Int32))).1]) (rest := []) ⟨hx, hb, hml, hown, hts⟩ (k_X7_setPair l dC dI cI mO memA dskA rgA inA outA H.size (f_X7_pop (sMW_spent u (if a1 = (5 : Int32) then 5 else (if a1 = (7 : Int32) then 5 else 10 : Int32) : Int32))).2 (a1 / (2 : Int32)) (f_X7_pop (sMW_spent u (if a1 = (5 : Int32) then 5 else (if a1 = (7 : Int32) then 5 else 10 : Int32) : Int32))).1 (in_div2 h1)) (cwV 2 hts gX7_single_X7_setPair rfl rfl rfl (by decide +kernel) ⟨Nat.le_of_ble_eq_true rfl, Nat.le_of_ble_eq_true rfl⟩) ⟨fun a U g mk q => by obtain ⟨q0, q1, qP, qK, qD⟩ := q; exact ⟨q0, q1, qP, va_K.moved (u := U) (U := U.calling g mk a) (Vm.Alike.refl U.vm) qK, qD⟩, va_recv hKc hPc (ci := 7) (q0 := 0) rfl rfl, fun U hU hW => ⟨rfl, by rw [hU], by rw [hU]; exact hPc, va_K.moved hW.alike hKc, hDc.weaken (fun _ _ _ _ => trivial)⟩⟩ rfl rfl hl.1 rfl (lv_room (Nat.le_of_ble_eq_true rfl)) dX7_single_65 ⟨Nat.le_of_ble_eq_true rfl, Nat.le_of_ble_eq_true rfl⟩) hS (fun q _ h => hFc q h) hFc (fun u9 t H1 locs ht hvm hw hB hz1 hk1 hS => ?_)
        subst hw
        obtain ⟨hP1, hK1, hD1⟩ := hB
        rw [ht] at hP1
        obtain ⟨hP, hD⟩ := jM_M hP hD hk1 hFc hP1 hD1
        clear hPc hDc hKc hFc hz1 hk1 hP1 hK1 hD1 ht hvm
        generalize H1 = H at hP hS ⊢
        refine lv_goto (tgt := 111) hx hb dX7_single_68 (by decide) ?_
        exact W.vret hx hb hr (fun t ht hW => ⟨⟨(f_X7_setPair (f_X7_pop (sMW_spent u (if a1 = (5 : Int32) then 5 else (if a1 = (7 : Int32) then 5 else 10 : Int32) : Int32))).2 (a1 / (2 : Int32)) (f_X7_pop (sMW_spent u (if a1 = (5 : Int32) then 5 else (if a1 = (7 : Int32) then 5 else 10 : Int32) : Int32))).1), rfl, (by simp only [f_X7_single, if_neg c2, if_pos c3]), by rw [ht]; exact hP, va_K.moved hW.alike hK, hD⟩, hS.F ht⟩) hS.2.2 dX7_single_111
    · skip
      refine lv_aload_n hx hb dX7_single_27 rfl (lv_at hl 0 rfl) ?_
      obtain ⟨hPc, hDc, hFc⟩ := xM_M hP hD hS hA
      have hKc := hK.sub (tys' := [(cI, .int)]) [0] rfl
      refine va_calli (va_runV (As := []) (rest := []) ⟨hx, hb, hml, hown, hts⟩ (k_X7_pop l dC dI cI mO memA dskA rgA inA outA H.size (sMW_spent u (if a1 = (5 : Int32) then 5 else (if a1 = (7 : Int32) then 5 else 10 : Int32) : Int32))) (cwV 0 hts gX7_single_X7_pop rfl rfl rfl (by decide +kernel) ⟨Nat.le_of_ble_eq_true rfl, Nat.le_of_ble_eq_true rfl⟩) ⟨fun a U g mk q => by obtain ⟨q0, q1, qP, qK, qD⟩ := q; exact ⟨q0, q1, qP, va_K.moved (u := U) (U := U.calling g mk a) (Vm.Alike.refl U.vm) qK, qD⟩, va_recv hKc hPc (ci := 7) (q0 := 0) rfl rfl, fun U hU hW => ⟨rfl, by rw [hU], by rw [hU]; exact hPc, va_K.moved hW.alike hKc, hDc.weaken (fun _ _ _ _ => trivial)⟩⟩ rfl rfl hl.1 rfl (lv_room (Nat.le_of_ble_eq_true rfl)) dX7_single_28 ⟨Nat.le_of_ble_eq_true rfl, Nat.le_of_ble_eq_true rfl⟩) hS (fun q _ h => hFc q h) hFc (fun r9 u9 t H1 locs ht hvm hw hB hz1 hk1 hS => ?_)
      obtain ⟨rfl, rfl⟩ := hw
      obtain ⟨hP1, hK1, hD1⟩ := hB
      rw [ht] at hP1
      obtain ⟨hP, hD⟩ := jM_M hP hD hk1 hFc hP1 hD1
      clear hPc hDc hKc hFc hz1 hk1 hP1 hK1 hD1 ht hvm
      generalize H1 = H at hP hS ⊢
      refine lv_topi (fun y6 ey6 => ?_)
      refine lv_istore_n (lv' := [(2, .int y6), (0, .ref mO), (1, .int a1)]) hx hb dX7_single_31 rfl hl (by decide) rfl (fun ls hl => ?_)
      refine lv_aload_n hx hb dX7_single_32 rfl (lv_at hl 1 rfl) ?_
      refine va_get (D := (dC, dI)) (ci := 7) (v := .ref rgA) (C := RX7) (T := TX7) (N := 30) hx hb hts iX7_single_X7 hown hK hP 0 rfl rfl 3 (by decide) (hts _ qX7_single_3) (fun _ h9 => h9) rfl dX7_single_33 ?_
      refine lv_bipush (v := 7) hx hb dX7_single_36 (by decide) ?_
      refine lv_iload_n hx hb dX7_single_38 rfl (lv_at hl 0 rfl) ?_
      refine lv_bipush (v := 8) hx hb dX7_single_39 (by decide) ?_
      refine lv_ishr hx hb dX7_single_41 ?_
      refine va_iast (f := (gMW_r (f_X7_pop (sMW_spent u (if a1 = (5 : Int32) then 5 else (if a1 = (7 : Int32) then 5 else 10 : Int32) : Int32))).2)) hx hb hK hP hD hS 3 0 rfl rfl (ix_lit (by decide)) dX7_single_42 (fun H locs hP hD hS => ?_)
      obtain ⟨hP, hD⟩ := aM_rgA hP hD
      refine lv_aload_n hx hb dX7_single_43 rfl (lv_at hl 1 rfl) ?_
      refine lv_iload_n hx hb dX7_single_44 rfl (lv_at hl 0 rfl) ?_
      obtain ⟨hPc, hDc, hFc⟩ := xM_M hP hD hS hA
      have hKc := hK.sub (tys' := [(cI, .int)]) [0] rfl
      refine va_callv (va_runV (As := [.int y6]) (rest := []) ⟨hx, hb, hml, hown, hts⟩ (k_X7_setFlags l dC dI cI mO memA dskA rgA inA outA H.size (sMW_r (f_X7_pop (sMW_spent u (if a1 = (5 : Int32) then 5 else (if a1 = (7 : Int32) then 5 else 10 : Int32) : Int32))).2 (upd (gMW_r (f_X7_pop (sMW_spent u (if a1 = (5 : Int32) then 5 else (if a1 = (7 : Int32) then 5 else 10 : Int32) : Int32))).2) (7 : Int32).toNatClampNeg (y6 >>> ((8 : Int32) &&& 31)))) y6) (cwV 1 hts gX7_single_X7_setFlags rfl rfl rfl (by decide +kernel) ⟨Nat.le_of_ble_eq_true rfl, Nat.le_of_ble_eq_true rfl⟩) ⟨fun a U g mk q => by obtain ⟨q0, q1, qP, qK, qD⟩ := q; exact ⟨q0, q1, qP, va_K.moved (u := U) (U := U.calling g mk a) (Vm.Alike.refl U.vm) qK, qD⟩, va_recv hKc hPc (ci := 7) (q0 := 0) rfl rfl, fun U hU hW => ⟨rfl, by rw [hU], by rw [hU]; exact hPc, va_K.moved hW.alike hKc, hDc.weaken (fun _ _ _ _ => trivial)⟩⟩ rfl rfl hl.1 rfl (lv_room (Nat.le_of_ble_eq_true rfl)) dX7_single_45 ⟨Nat.le_of_ble_eq_true rfl, Nat.le_of_ble_eq_true rfl⟩) hS (fun q _ h => hFc q h) hFc (fun u9 t H1 locs ht hvm hw hB hz1 hk1 hS => ?_)
      subst hw
      obtain ⟨hP1, hK1, hD1⟩ := hB
      rw [ht] at hP1
      obtain ⟨hP, hD⟩ := jM_M hP hD hk1 hFc hP1 hD1
      clear hPc hDc hKc hFc hz1 hk1 hP1 hK1 hD1 ht hvm
      generalize H1 = H at hP hS ⊢
      refine lv_goto (tgt := 111) hx hb dX7_single_48 (by decide) ?_
      exact W.vret hx hb hr (fun t ht hW => ⟨⟨(f_X7_setFlags (sMW_r (f_X7_pop (sMW_spent u (if a1 = (5 : Int32) then 5 else (if a1 = (7 : Int32) then 5 else 10 : Int32) : Int32))).2 (upd (gMW_r (f_X7_pop (sMW_spent u (if a1 = (5 : Int32) then 5 else (if a1 = (7 : Int32) then 5 else 10 : Int32) : Int32))).2) (7 : Int32).toNatClampNeg (y6 >>> ((8 : Int32) &&& 31)))) y6), rfl, (by subst ey6; simp only [f_X7_single, if_pos c2]), by rw [ht]; exact hP, va_K.moved hW.alike hK, hD⟩, hS.F ht⟩) hS.2.2 dX7_single_111
  · skip
    refine lv_icmp_eq (tgt := 12) hx hb dX7_single_3 (by decide) (fun c7 => ?_) (fun c7 => ?_)
    · skip
      refine lv_iconst (v := 5) hx hb dX7_single_12 (by decide) ?_
      refine lv_goto (tgt := 18) hx hb dX7_single_13 (by decide) ?_
      exact hJ1 5 _ _ _ (by simp only [if_pos c7]) hP hS (lv_sub hl [0, 1] rfl)
    · skip
      refine lv_iload_n hx hb dX7_single_6 rfl (lv_at hl 1 rfl) ?_
      refine lv_bipush (v := 7) hx hb dX7_single_7 (by decide) ?_
      refine jn_i (D := (dC, dI)) (cl := vwCl) (ws := (wM cI mO memA dskA rgA inA outA u)) (A := A) (H0 := s.heap) (nL := 3) 18 (if a1 = (7 : Int32) then 5 else 10 : Int32) [(0, .ref mO), (1, .int a1)] [.ref mO] (fun H locs ls hP hS hl => ?_) (fun hJ8 => ?_)
      · skip
        exact hJ1 (if a1 = (7 : Int32) then 5 else 10 : Int32) _ _ _ (by simp only [if_neg c7]) hP hS (lv_sub hl [0, 1] rfl)
      · skip
        refine lv_icmp_ne (tgt := 16) hx hb dX7_single_9 (by decide) (fun c9 => ?_) (fun c9 => ?_)
        · skip
          refine lv_bipush (v := 10) hx hb dX7_single_16 (by decide) ?_
          exact hJ8 10 _ _ _ (by simp only [if_neg c9]) hP hS (lv_sub hl [0, 1] rfl)
        · skip
          refine lv_iconst (v := 5) hx hb dX7_single_12 (by decide) ?_
          refine lv_goto (tgt := 18) hx hb dX7_single_13 (by decide) ?_
          exact hJ8 5 _ _ _ (by simp only [if_pos c9]) hP hS (lv_sub hl [0, 1] rfl)

def f_X7_special (u : MW) (a1 : Int32) : MW := 
  if (2 : Int32) ≤ a1 then 
    if a1 = (2 : Int32) then (f_X7_out (f_X7_next (sMW_spent u (if (4 : Int32) ≤ a1 then (if a1 = (4 : Int32) then 18 else 4 : Int32) else 10 : Int32))).2 (f_X7_next (sMW_spent u (if (4 : Int32) ≤ a1 then (if a1 = (4 : Int32) then 18 else 4 : Int32) else 10 : Int32))).1 ((gMW_r (f_X7_next (sMW_spent u (if (4 : Int32) ≤ a1 then (if a1 = (4 : Int32) then 18 else 4 : Int32) else 10 : Int32))).2) (7 : Int32).toNatClampNeg))
    else 
      if a1 = (3 : Int32) then (sMW_r (f_X7_in (f_X7_next (sMW_spent u (if (4 : Int32) ≤ a1 then (if a1 = (4 : Int32) then 18 else 4 : Int32) else 10 : Int32))).2 (f_X7_next (sMW_spent u (if (4 : Int32) ≤ a1 then (if a1 = (4 : Int32) then 18 else 4 : Int32) else 10 : Int32))).1).2 (upd (gMW_r (f_X7_in (f_X7_next (sMW_spent u (if (4 : Int32) ≤ a1 then (if a1 = (4 : Int32) then 18 else 4 : Int32) else 10 : Int32))).2 (f_X7_next (sMW_spent u (if (4 : Int32) ≤ a1 then (if a1 = (4 : Int32) then 18 else 4 : Int32) else 10 : Int32))).1).2) (7 : Int32).toNatClampNeg (f_X7_in (f_X7_next (sMW_spent u (if (4 : Int32) ≤ a1 then (if a1 = (4 : Int32) then 18 else 4 : Int32) else 10 : Int32))).2 (f_X7_next (sMW_spent u (if (4 : Int32) ≤ a1 then (if a1 = (4 : Int32) then 18 else 4 : Int32) else 10 : Int32))).1).1))
      else 
        if a1 = (4 : Int32) then (f_X7_setPair (f_X7_setWord (sMW_spent u (if (4 : Int32) ≤ a1 then (if a1 = (4 : Int32) then 18 else 4 : Int32) else 10 : Int32)) (gMW_sp (sMW_spent u (if (4 : Int32) ≤ a1 then (if a1 = (4 : Int32) then 18 else 4 : Int32) else 10 : Int32))) (f_X7_hl (sMW_spent u (if (4 : Int32) ≤ a1 then (if a1 = (4 : Int32) then 18 else 4 : Int32) else 10 : Int32)))) 2 (f_X7_getWord (sMW_spent u (if (4 : Int32) ≤ a1 then (if a1 = (4 : Int32) then 18 else 4 : Int32) else 10 : Int32)) (gMW_sp (sMW_spent u (if (4 : Int32) ≤ a1 then (if a1 = (4 : Int32) then 18 else 4 : Int32) else 10 : Int32)))))
        else 
          if a1 = (5 : Int32) then (f_X7_setPair (f_X7_setPair (sMW_spent u (if (4 : Int32) ≤ a1 then (if a1 = (4 : Int32) then 18 else 4 : Int32) else 10 : Int32)) 2 (f_X7_pair (sMW_spent u (if (4 : Int32) ≤ a1 then (if a1 = (4 : Int32) then 18 else 4 : Int32) else 10 : Int32)) 1)) 1 (f_X7_hl (sMW_spent u (if (4 : Int32) ≤ a1 then (if a1 = (4 : Int32) then 18 else 4 : Int32) else 10 : Int32))))
          else (sMW_jon (sMW_on (sMW_spent u (if (4 : Int32) ≤ a1 then (if a1 = (4 : Int32) then 18 else 4 : Int32) else 10 : Int32)) (if a1 = (7 : Int32) then true else false : Bool)) (if a1 = (7 : Int32) then true else false : Bool))
  else (sMW_pc (f_X7_nextWord (sMW_spent u (if (4 : Int32) ≤ a1 then (if a1 = (4 : Int32) then 18 else 4 : Int32) else 10 : Int32))).2 (f_X7_nextWord (sMW_spent u (if (4 : Int32) ≤ a1 then (if a1 = (4 : Int32) then 18 else 4 : Int32) else 10 : Int32))).1)
theorem qX7_special_0 : Cond.fieldLink RX7 141 "DiskMachineModel" "spent" "I" ∈ wsX7_special := by decide +kernel
theorem qX7_special_1 : Cond.fieldLink RX7 196 "DiskMachineModel" "on" "Z" ∈ wsX7_special := by decide +kernel
theorem qX7_special_2 : Cond.fieldLink RX7 199 "DiskMachineModel" "justOn" "Z" ∈ wsX7_special := by decide +kernel
theorem qX7_special_3 : Cond.fieldLink RX7 55 "DiskMachineModel" "sp" "I" ∈ wsX7_special := by decide +kernel
theorem qX7_special_4 : Cond.fieldLink RX7 16 "DiskMachineModel" "\x72" "[I" ∈ wsX7_special := by decide +kernel
theorem qX7_special_5 : Cond.fieldLink RX7 47 "DiskMachineModel" "pc" "I" ∈ wsX7_special := by decide +kernel
theorem iX7_special_X7 : ∀ w ∈ wsX70, w ∈ wsX7_special := by decide +kernel
set_option maxHeartbeats 4000000 in
set_option maxRecDepth 100000 in
theorem k_X7_special (l : Launch) (dC : Nat → ClassId) (dI : Nat → Nat → Nat) (cI : ClassId) (mO memA dskA rgA inA outA : Nat) (sz : Nat) (u : MW) (a1 : Int32) (h1 : vp_in a1 8) (hI : ∃ q : Nat, q ≤ 64 ∧ gMW_ins u = nI q) (hO : ¬ gMW_outs u < 0) : Met l yX7_special wsX7_special ({ frames := 3, cells := 0, slots := 0, locals := 63 }) (va_Pc [.ref mO, .int a1] (wB dC dI [(cI, .int)] sz (wM cI mO memA dskA rgA inA outA u))) (va_Qv (fun u' : MW => u' = (f_X7_special u a1)) (fun u' => wE dC dI [(cI, .int)] (va_A (wM cI mO memA dskA rgA inA outA u) sz) (wM cI mO memA dskA rgA inA outA u')) (va_A (wM cI mO memA dskA rgA inA outA u) sz)) 0 0 (va_A (wM cI mO memA dskA rgA inA outA u) sz) := by
  refine Met.ofW (cc := cX7_special) (maxL := 3) (ret := none) (by decide) rfl ?_
  intro p e s m args below meth c s₁ B hml hv
  obtain ⟨rfl, hsz, hP, hK, hD0⟩ := hv
  have hx := B.exec
  have hb := B.bytes
  have hr := B.returns
  have hts := atoms_spec (ws := wsX7_special) B.pre
  have hown : s.vm.findClass RX7 = some m.cls := findClass_of_methodNamed B.named
  have hlocks := B.notSynchronized
  subst hsz
  have hD := hD0.self (sz := s.heap.size)
  generalize hAe : va_A (wM cI mO memA dskA rgA inA outA u) s.heap.size = A at hD ⊢
  have hA : ∀ q : Nat, s.heap.size ≤ q → A q := fun q h => by rw [← hAe]; exact Or.inr h
  have hS : va_S A s.heap s.heap [] := va_S.rf
  have hP : va_P (dC, dI) vwCl (wM cI mO memA dskA rgA inA outA u) s.heap := hP
  clear hAe hD0
  have hl := lv_entry ([.ref mO, .int a1]) (n := 3) (Nat.le_of_ble_eq_true rfl)
  rw [lg_entry_eq]
  generalize (lg_sl ([.ref mO, .int a1]) ++ List.replicate (3 - (lg_sl ([.ref mO, .int a1])).length) Slot.unset).toArray = ls at hl ⊢
  have hl : lv_has ls 3 [(0, .ref mO), (1, .int a1)] := hl
  refine jn_H hP hS (fun H locs hP hS => ?_)
  refine lv_aload_n hx hb dX7_special_0 rfl (lv_at hl 0 rfl) ?_
  refine lv_iload_n hx hb dX7_special_1 rfl (lv_at hl 1 rfl) ?_
  refine lv_iconst (v := 4) hx hb dX7_special_2 (by decide) ?_
  refine jn_i (D := (dC, dI)) (cl := vwCl) (ws := (wM cI mO memA dskA rgA inA outA u)) (A := A) (H0 := s.heap) (nL := 3) 22 (if (4 : Int32) ≤ a1 then (if a1 = (4 : Int32) then 18 else 4 : Int32) else 10 : Int32) [(0, .ref mO), (1, .int a1)] [.ref mO] (fun H locs ls hP hS hl => ?_) (fun hJ1 => ?_)
  · skip
    refine va_put (D := (dC, dI)) (ci := 7) (v := .int (if (4 : Int32) ≤ a1 then (if a1 = (4 : Int32) then 18 else 4 : Int32) else 10 : Int32)) (ty := .int) (C := RX7) (T := TX7) (N := 30) hx hb hts iX7_special_X7 tyX7 tyX7_ok nmX7 hown hK hP hD hS 0 rfl rfl 16 (by decide) (hts _ qX7_special_0) (fun _ h9 => h9) rfl (by decide +kernel) rfl rfl (Nat.le_of_ble_eq_true rfl) dX7_special_22 (fun H locs hP hD hS => ?_)
    obtain ⟨hP, hD⟩ := pM_spent hP hD
    refine lv_iload_n hx hb dX7_special_25 rfl (lv_at hl 1 rfl) ?_
    refine lv_iconst (v := 2) hx hb dX7_special_26 (by decide) ?_
    refine lv_icmp_ge (tgt := 41) hx hb dX7_special_27 (by decide) (fun c2 => ?_) (fun c2 => ?_)
    · skip
      refine lv_iload_n hx hb dX7_special_41 rfl (lv_at hl 1 rfl) ?_
      refine lv_iconst (v := 2) hx hb dX7_special_42 (by decide) ?_
      refine lv_icmp_ne (tgt := 64) hx hb dX7_special_43 (by decide) (fun c3 => ?_) (fun c3 => ?_)
      · skip
        refine lv_iload_n hx hb dX7_special_64 rfl (lv_at hl 1 rfl) ?_
        refine lv_iconst (v := 3) hx hb dX7_special_65 (by decide) ?_
        refine lv_icmp_ne (tgt := 87) hx hb dX7_special_66 (by decide) (fun c4 => ?_) (fun c4 => ?_)
        · skip
          refine lv_iload_n hx hb dX7_special_87 rfl (lv_at hl 1 rfl) ?_
          refine lv_iconst (v := 4) hx hb dX7_special_88 (by decide) ?_
          refine lv_icmp_ne (tgt := 122) hx hb dX7_special_89 (by decide) (fun c5 => ?_) (fun c5 => ?_)
          · skip
            refine lv_iload_n hx hb dX7_special_122 rfl (lv_at hl 1 rfl) ?_
            refine lv_iconst (v := 5) hx hb dX7_special_123 (by decide) ?_
            refine lv_icmp_ne (tgt := 151) hx hb dX7_special_124 (by decide) (fun c6 => ?_) (fun c6 => ?_)
            · skip
              refine lv_aload_n hx hb dX7_special_151 rfl (lv_at hl 0 rfl) ?_
              refine lv_iload_n hx hb dX7_special_152 rfl (lv_at hl 1 rfl) ?_
              refine lv_bipush (v := 7) hx hb dX7_special_153 (by decide) ?_
              refine jn_b (D := (dC, dI)) (cl := vwCl) (ws := (wM cI mO memA dskA rgA inA outA (sMW_spent u (if (4 : Int32) ≤ a1 then (if a1 = (4 : Int32) then 18 else 4 : Int32) else 10 : Int32)))) (A := A) (H0 := s.heap) (nL := 3) 163 (if a1 = (7 : Int32) then true else false : Bool) [(0, .ref mO), (1, .int a1)] [.ref mO] (fun H locs ls hP hS hl => ?_) (fun hJ7 => ?_)
              · skip
                refine va_put (D := (dC, dI)) (ci := 7) (v := .int (bI (if a1 = (7 : Int32) then true else false : Bool))) (ty := .boolean) (C := RX7) (T := TX7) (N := 30) hx hb hts iX7_special_X7 tyX7 tyX7_ok nmX7 hown hK hP hD hS 0 rfl rfl 12 (by decide) (hts _ qX7_special_1) (fun _ h9 => h9) rfl (by decide +kernel) (bI_nar (if a1 = (7 : Int32) then true else false : Bool)) (bI_fit (if a1 = (7 : Int32) then true else false : Bool)) (Nat.le_of_ble_eq_true rfl) dX7_special_163 (fun H locs hP hD hS => ?_)
                obtain ⟨hP, hD⟩ := pM_on hP hD
                refine lv_aload_n hx hb dX7_special_166 rfl (lv_at hl 0 rfl) ?_
                refine lv_iload_n hx hb dX7_special_167 rfl (lv_at hl 1 rfl) ?_
                refine lv_bipush (v := 7) hx hb dX7_special_168 (by decide) ?_
                refine jn_b (D := (dC, dI)) (cl := vwCl) (ws := (wM cI mO memA dskA rgA inA outA (sMW_on (sMW_spent u (if (4 : Int32) ≤ a1 then (if a1 = (4 : Int32) then 18 else 4 : Int32) else 10 : Int32)) (if a1 = (7 : Int32) then true else false : Bool)))) (A := A) (H0 := s.heap) (nL := 3) 178 (if a1 = (7 : Int32) then true else false : Bool) [(0, .ref mO), (1, .int a1)] [.ref mO] (fun H locs ls hP hS hl => ?_) (fun hJ8 => ?_)
                · skip
                  refine va_put (D := (dC, dI)) (ci := 7) (v := .int (bI (if a1 = (7 : Int32) then true else false : Bool))) (ty := .boolean) (C := RX7) (T := TX7) (N := 30) hx hb hts iX7_special_X7 tyX7 tyX7_ok nmX7 hown hK hP hD hS 0 rfl rfl 13 (by decide) (hts _ qX7_special_2) (fun _ h9 => h9) rfl (by decide +kernel) (bI_nar (if a1 = (7 : Int32) then true else false : Bool)) (bI_fit (if a1 = (7 : Int32) then true else false : Bool)) (Nat.le_of_ble_eq_true rfl) dX7_special_178 (fun H locs hP hD hS => ?_)
                  obtain ⟨hP, hD⟩ := pM_jon hP hD
                  exact W.vret hx hb hr (fun t ht hW => ⟨⟨(sMW_jon (sMW_on (sMW_spent u (if (4 : Int32) ≤ a1 then (if a1 = (4 : Int32) then 18 else 4 : Int32) else 10 : Int32)) (if a1 = (7 : Int32) then true else false : Bool)) (if a1 = (7 : Int32) then true else false : Bool)), rfl, (by simp only [f_X7_special, if_pos c2, if_neg c3, if_neg c4, if_neg c5, if_neg c6]), by rw [ht]; exact hP, va_K.moved hW.alike hK, hD⟩, hS.F ht⟩) hS.2.2 dX7_special_181
                · skip
                  refine lv_icmp_ne (tgt := 177) hx hb dX7_special_170 (by decide) (fun c9 => ?_) (fun c9 => ?_)
                  · skip
                    refine lv_iconst (v := 0) hx hb dX7_special_177 (by decide) ?_
                    exact hJ8 false _ _ _ (by simp only [if_neg c9]) hP hS (lv_sub hl [0, 1] rfl)
                  · skip
                    refine lv_iconst (v := 1) hx hb dX7_special_173 (by decide) ?_
                    refine lv_goto (tgt := 178) hx hb dX7_special_174 (by decide) ?_
                    exact hJ8 true _ _ _ (by simp only [if_pos c9]) hP hS (lv_sub hl [0, 1] rfl)
              · skip
                refine lv_icmp_ne (tgt := 162) hx hb dX7_special_155 (by decide) (fun c10 => ?_) (fun c10 => ?_)
                · skip
                  refine lv_iconst (v := 0) hx hb dX7_special_162 (by decide) ?_
                  exact hJ7 false _ _ _ (by simp only [if_neg c10]) hP hS (lv_sub hl [0, 1] rfl)
                · skip
                  refine lv_iconst (v := 1) hx hb dX7_special_158 (by decide) ?_
                  refine lv_goto (tgt := 163) hx hb dX7_special_159 (by decide) ?_
                  exact hJ7 true _ _ _ (by simp only [if_pos c10]) hP hS (lv_sub hl [0, 1] rfl)
            · skip
              refine lv_aload_n hx hb dX7_special_127 rfl (lv_at hl 0 rfl) ?_
              obtain ⟨hPc, hDc, hFc⟩ := xM_M hP hD hS hA
              have hKc := hK.sub (tys' := [(cI, .int)]) [0] rfl
              refine va_calli (va_runV (As := []) (rest := []) ⟨hx, hb, hml, hown, hts⟩ (k_X7_hl l dC dI cI mO memA dskA rgA inA outA H.size (sMW_spent u (if (4 : Int32) ≤ a1 then (if a1 = (4 : Int32) then 18 else 4 : Int32) else 10 : Int32))) (cwV 0 hts gX7_special_X7_hl rfl rfl rfl (by decide +kernel) ⟨Nat.le_of_ble_eq_true rfl, Nat.le_of_ble_eq_true rfl⟩) ⟨fun a U g mk q => by obtain ⟨q0, q1, qP, qK, qD⟩ := q; exact ⟨q0, q1, qP, va_K.moved (u := U) (U := U.calling g mk a) (Vm.Alike.refl U.vm) qK, qD⟩, va_recv hKc hPc (ci := 7) (q0 := 0) rfl rfl, fun U hU hW => ⟨rfl, by rw [hU], by rw [hU]; exact hPc, va_K.moved hW.alike hKc, hDc.weaken (fun _ _ _ _ => trivial)⟩⟩ rfl rfl hl.1 rfl (lv_room (Nat.le_of_ble_eq_true rfl)) dX7_special_128 ⟨Nat.le_of_ble_eq_true rfl, Nat.le_of_ble_eq_true rfl⟩) hS (fun q _ h => hFc q h) hFc (fun r9 u9 t H1 locs ht hvm hw hB hz1 hk1 hS => ?_)
              obtain ⟨hw1, hw2⟩ := hw
              have hw2 := hw2.symm
              subst hw1 hw2
              obtain ⟨hP1, hK1, hD1⟩ := hB
              rw [ht] at hP1
              obtain ⟨hP, hD⟩ := jM_M0 hP hD hk1 hFc hP1 hD1
              clear hPc hDc hKc hFc hz1 hk1 hP1 hK1 hD1 ht hvm
              generalize H1 = H at hP hS ⊢
              refine lv_topi (fun y11 ey11 => ?_)
              refine lv_istore_n (lv' := [(2, .int y11), (0, .ref mO), (1, .int a1)]) hx hb dX7_special_131 rfl hl (by decide) rfl (fun ls hl => ?_)
              refine lv_aload_n hx hb dX7_special_132 rfl (lv_at hl 1 rfl) ?_
              refine lv_iconst (v := 2) hx hb dX7_special_133 (by decide) ?_
              refine lv_aload_n hx hb dX7_special_134 rfl (lv_at hl 1 rfl) ?_
              refine lv_iconst (v := 1) hx hb dX7_special_135 (by decide) ?_
              obtain ⟨hPc, hDc, hFc⟩ := xM_M hP hD hS hA
              have hKc := hK.sub (tys' := [(cI, .int)]) [0] rfl
              refine va_calli (va_runV (As := [.int 1]) (rest := [.int 2, .ref mO]) ⟨hx, hb, hml, hown, hts⟩ (k_X7_pair l dC dI cI mO memA dskA rgA inA outA H.size (sMW_spent u (if (4 : Int32) ≤ a1 then (if a1 = (4 : Int32) then 18 else 4 : Int32) else 10 : Int32)) 1 (ix_lit (by decide))) (cwV 1 hts gX7_special_X7_pair rfl rfl rfl (by decide +kernel) ⟨Nat.le_of_ble_eq_true rfl, Nat.le_of_ble_eq_true rfl⟩) ⟨fun a U g mk q => by obtain ⟨q0, q1, qP, qK, qD⟩ := q; exact ⟨q0, q1, qP, va_K.moved (u := U) (U := U.calling g mk a) (Vm.Alike.refl U.vm) qK, qD⟩, va_recv hKc hPc (ci := 7) (q0 := 0) rfl rfl, fun U hU hW => ⟨rfl, by rw [hU], by rw [hU]; exact hPc, va_K.moved hW.alike hKc, hDc.weaken (fun _ _ _ _ => trivial)⟩⟩ rfl rfl hl.1 rfl (lv_room (Nat.le_of_ble_eq_true rfl)) dX7_special_136 ⟨Nat.le_of_ble_eq_true rfl, Nat.le_of_ble_eq_true rfl⟩) hS (fun q _ h => hFc q h) hFc (fun r9 u9 t H1 locs ht hvm hw hB hz1 hk1 hS => ?_)
              obtain ⟨hw1, hw2⟩ := hw
              have hw2 := hw2.symm
              subst hw1 hw2
              obtain ⟨hP1, hK1, hD1⟩ := hB
              rw [ht] at hP1
              obtain ⟨hP, hD⟩ := jM_M0 hP hD hk1 hFc hP1 hD1
              clear hPc hDc hKc hFc hz1 hk1 hP1 hK1 hD1 ht hvm
              generalize H1 = H at hP hS ⊢
              obtain ⟨hPc, hDc, hFc⟩ := xM_M hP hD hS hA
              have hKc := hK.sub (tys' := [(cI, .int)]) [0] rfl
              refine va_callv (va_runV (As := [.int 2, .int (f_X7_pair (sMW_spent u (if (4 : Int32) ≤ a1 then (if a1 = (4 : Int32) then 18 else 4 : Int32) else 10 : Int32)) 1)]) (rest := []) ⟨hx, hb, hml, hown, hts⟩ (k_X7_setPair l dC dI cI mO memA dskA rgA inA outA H.size (sMW_spent u (if (4 : Int32) ≤ a1 then (if a1 = (4 : Int32) then 18 else 4 : Int32) else 10 : Int32)) 2 (f_X7_pair (sMW_spent u (if (4 : Int32) ≤ a1 then (if a1 = (4 : Int32) then 18 else 4 : Int32) else 10 : Int32)) 1) (ix_lit (by decide))) (cwV 2 hts gX7_special_X7_setPair rfl rfl rfl (by decide +kernel) ⟨Nat.le_of_ble_eq_true rfl, Nat.le_of_ble_eq_true rfl⟩) ⟨fun a U g mk q => by obtain ⟨q0, q1, qP, qK, qD⟩ := q; exact ⟨q0, q1, qP, va_K.moved (u := U) (U := U.calling g mk a) (Vm.Alike.refl U.vm) qK, qD⟩, va_recv hKc hPc (ci := 7) (q0 := 0) rfl rfl, fun U hU hW => ⟨rfl, by rw [hU], by rw [hU]; exact hPc, va_K.moved hW.alike hKc, hDc.weaken (fun _ _ _ _ => trivial)⟩⟩ rfl rfl hl.1 rfl (lv_room (Nat.le_of_ble_eq_true rfl)) dX7_special_139 ⟨Nat.le_of_ble_eq_true rfl, Nat.le_of_ble_eq_true rfl⟩) hS (fun q _ h => hFc q h) hFc (fun u9 t H1 locs ht hvm hw hB hz1 hk1 hS => ?_)
              subst hw
              obtain ⟨hP1, hK1, hD1⟩ := hB
              rw [ht] at hP1
              obtain ⟨hP, hD⟩ := jM_M hP hD hk1 hFc hP1 hD1
              clear hPc hDc hKc hFc hz1 hk1 hP1 hK1 hD1 ht hvm
              generalize H1 = H at hP hS ⊢
              refine lv_aload_n hx hb dX7_special_142 rfl (lv_at hl 1 rfl) ?_
              refine lv_iconst (v := 1) hx hb dX7_special_143 (by decide) ?_
              refine lv_iload_n hx hb dX7_special_144 rfl (lv_at hl 0 rfl) ?_
              obtain ⟨hPc, hDc, hFc⟩ := xM_M hP hD hS hA
              have hKc := hK.sub (tys' := [(cI, .int)]) [0] rfl
              refine va_callv (va_runV (As := [.int 1, .int y11]) (rest := []) ⟨hx, hb, hml, hown, hts⟩ (k_X7_setPair l dC dI cI mO memA dskA rgA inA outA H.size (f_X7_setPair (sMW_spent u (if (4 : Int32) ≤ a1 then (if a1 = (4 : Int32) then 18 else 4 : Int32) else 10 : Int32)) 2 (f_X7_pair (sMW_spent u (if (4 : Int32) ≤ a1 then (if a1 = (4 : Int32) then 18 else 4 : Int32) else 10 : Int32)) 1)) 1 y11 (ix_lit (by decide))) (cwV 2 hts gX7_special_X7_setPair rfl rfl rfl (by decide +kernel) ⟨Nat.le_of_ble_eq_true rfl, Nat.le_of_ble_eq_true rfl⟩) ⟨fun a U g mk q => by obtain ⟨q0, q1, qP, qK, qD⟩ := q; exact ⟨q0, q1, qP, va_K.moved (u := U) (U := U.calling g mk a) (Vm.Alike.refl U.vm) qK, qD⟩, va_recv hKc hPc (ci := 7) (q0 := 0) rfl rfl, fun U hU hW => ⟨rfl, by rw [hU], by rw [hU]; exact hPc, va_K.moved hW.alike hKc, hDc.weaken (fun _ _ _ _ => trivial)⟩⟩ rfl rfl hl.1 rfl (lv_room (Nat.le_of_ble_eq_true rfl)) dX7_special_145 ⟨Nat.le_of_ble_eq_true rfl, Nat.le_of_ble_eq_true rfl⟩) hS (fun q _ h => hFc q h) hFc (fun u9 t H1 locs ht hvm hw hB hz1 hk1 hS => ?_)
              subst hw
              obtain ⟨hP1, hK1, hD1⟩ := hB
              rw [ht] at hP1
              obtain ⟨hP, hD⟩ := jM_M hP hD hk1 hFc hP1 hD1
              clear hPc hDc hKc hFc hz1 hk1 hP1 hK1 hD1 ht hvm
              generalize H1 = H at hP hS ⊢
              refine lv_goto (tgt := 181) hx hb dX7_special_148 (by decide) ?_
              exact W.vret hx hb hr (fun t ht hW => ⟨⟨(f_X7_setPair (f_X7_setPair (sMW_spent u (if (4 : Int32) ≤ a1 then (if a1 = (4 : Int32) then 18 else 4 : Int32) else 10 : Int32)) 2 (f_X7_pair (sMW_spent u (if (4 : Int32) ≤ a1 then (if a1 = (4 : Int32) then 18 else 4 : Int32) else 10 : Int32)) 1)) 1 y11), rfl, (by subst ey11; simp only [f_X7_special, if_pos c2, if_neg c3, if_neg c4, if_neg c5, if_pos c6]), by rw [ht]; exact hP, va_K.moved hW.alike hK, hD⟩, hS.F ht⟩) hS.2.2 dX7_special_181
          · skip
            refine lv_aload_n hx hb dX7_special_92 rfl (lv_at hl 0 rfl) ?_
            refine lv_aload_n hx hb dX7_special_93 rfl (lv_at hl 0 rfl) ?_
            refine va_get (D := (dC, dI)) (ci := 7) (v := .int (gMW_sp (sMW_spent u (if (4 : Int32) ≤ a1 then (if a1 = (4 : Int32) then 18 else 4 : Int32) else 10 : Int32)))) (C := RX7) (T := TX7) (N := 30) hx hb hts iX7_special_X7 hown hK hP 0 rfl rfl 10 (by decide) (hts _ qX7_special_3) (fun _ h9 => h9) rfl dX7_special_94 ?_
            obtain ⟨hPc, hDc, hFc⟩ := xM_M hP hD hS hA
            have hKc := hK.sub (tys' := [(cI, .int)]) [0] rfl
            refine va_calli (va_runV (As := [.int (gMW_sp (sMW_spent u (if (4 : Int32) ≤ a1 then (if a1 = (4 : Int32) then 18 else 4 : Int32) else 10 : Int32)))]) (rest := []) ⟨hx, hb, hml, hown, hts⟩ (k_X7_getWord l dC dI cI mO memA dskA rgA inA outA H.size (sMW_spent u (if (4 : Int32) ≤ a1 then (if a1 = (4 : Int32) then 18 else 4 : Int32) else 10 : Int32)) (gMW_sp (sMW_spent u (if (4 : Int32) ≤ a1 then (if a1 = (4 : Int32) then 18 else 4 : Int32) else 10 : Int32)))) (cwV 1 hts gX7_special_X7_getWord rfl rfl rfl (by decide +kernel) ⟨Nat.le_of_ble_eq_true rfl, Nat.le_of_ble_eq_true rfl⟩) ⟨fun a U g mk q => by obtain ⟨q0, q1, qP, qK, qD⟩ := q; exact ⟨q0, q1, qP, va_K.moved (u := U) (U := U.calling g mk a) (Vm.Alike.refl U.vm) qK, qD⟩, va_recv hKc hPc (ci := 7) (q0 := 0) rfl rfl, fun U hU hW => ⟨rfl, by rw [hU], by rw [hU]; exact hPc, va_K.moved hW.alike hKc, hDc.weaken (fun _ _ _ _ => trivial)⟩⟩ rfl rfl hl.1 rfl (lv_room (Nat.le_of_ble_eq_true rfl)) dX7_special_97 ⟨Nat.le_of_ble_eq_true rfl, Nat.le_of_ble_eq_true rfl⟩) hS (fun q _ h => hFc q h) hFc (fun r9 u9 t H1 locs ht hvm hw hB hz1 hk1 hS => ?_)
            obtain ⟨hw1, hw2⟩ := hw
            have hw2 := hw2.symm
            subst hw1 hw2
            obtain ⟨hP1, hK1, hD1⟩ := hB
            rw [ht] at hP1
            obtain ⟨hP, hD⟩ := jM_M0 hP hD hk1 hFc hP1 hD1
            clear hPc hDc hKc hFc hz1 hk1 hP1 hK1 hD1 ht hvm
            generalize H1 = H at hP hS ⊢
            refine lv_topi (fun y12 ey12 => ?_)
            refine lv_istore_n (lv' := [(2, .int y12), (0, .ref mO), (1, .int a1)]) hx hb dX7_special_100 rfl hl (by decide) rfl (fun ls hl => ?_)
            refine lv_aload_n hx hb dX7_special_101 rfl (lv_at hl 1 rfl) ?_
            refine lv_aload_n hx hb dX7_special_102 rfl (lv_at hl 1 rfl) ?_
            refine va_get (D := (dC, dI)) (ci := 7) (v := .int (gMW_sp (sMW_spent u (if (4 : Int32) ≤ a1 then (if a1 = (4 : Int32) then 18 else 4 : Int32) else 10 : Int32)))) (C := RX7) (T := TX7) (N := 30) hx hb hts iX7_special_X7 hown hK hP 0 rfl rfl 10 (by decide) (hts _ qX7_special_3) (fun _ h9 => h9) rfl dX7_special_103 ?_
            refine lv_aload_n hx hb dX7_special_106 rfl (lv_at hl 1 rfl) ?_
            obtain ⟨hPc, hDc, hFc⟩ := xM_M hP hD hS hA
            have hKc := hK.sub (tys' := [(cI, .int)]) [0] rfl
            refine va_calli (va_runV (As := []) (rest := [.int (gMW_sp (sMW_spent u (if (4 : Int32) ≤ a1 then (if a1 = (4 : Int32) then 18 else 4 : Int32) else 10 : Int32))), .ref mO]) ⟨hx, hb, hml, hown, hts⟩ (k_X7_hl l dC dI cI mO memA dskA rgA inA outA H.size (sMW_spent u (if (4 : Int32) ≤ a1 then (if a1 = (4 : Int32) then 18 else 4 : Int32) else 10 : Int32))) (cwV 0 hts gX7_special_X7_hl rfl rfl rfl (by decide +kernel) ⟨Nat.le_of_ble_eq_true rfl, Nat.le_of_ble_eq_true rfl⟩) ⟨fun a U g mk q => by obtain ⟨q0, q1, qP, qK, qD⟩ := q; exact ⟨q0, q1, qP, va_K.moved (u := U) (U := U.calling g mk a) (Vm.Alike.refl U.vm) qK, qD⟩, va_recv hKc hPc (ci := 7) (q0 := 0) rfl rfl, fun U hU hW => ⟨rfl, by rw [hU], by rw [hU]; exact hPc, va_K.moved hW.alike hKc, hDc.weaken (fun _ _ _ _ => trivial)⟩⟩ rfl rfl hl.1 rfl (lv_room (Nat.le_of_ble_eq_true rfl)) dX7_special_107 ⟨Nat.le_of_ble_eq_true rfl, Nat.le_of_ble_eq_true rfl⟩) hS (fun q _ h => hFc q h) hFc (fun r9 u9 t H1 locs ht hvm hw hB hz1 hk1 hS => ?_)
            obtain ⟨hw1, hw2⟩ := hw
            have hw2 := hw2.symm
            subst hw1 hw2
            obtain ⟨hP1, hK1, hD1⟩ := hB
            rw [ht] at hP1
            obtain ⟨hP, hD⟩ := jM_M0 hP hD hk1 hFc hP1 hD1
            clear hPc hDc hKc hFc hz1 hk1 hP1 hK1 hD1 ht hvm
            generalize H1 = H at hP hS ⊢
            obtain ⟨hPc, hDc, hFc⟩ := xM_M hP hD hS hA
            have hKc := hK.sub (tys' := [(cI, .int)]) [0] rfl
            refine va_callv (va_runV (As := [.int (gMW_sp (sMW_spent u (if (4 : Int32) ≤ a1 then (if a1 = (4 : Int32) then 18 else 4 : Int32) else 10 : Int32))), .int (f_X7_hl (sMW_spent u (if (4 : Int32) ≤ a1 then (if a1 = (4 : Int32) then 18 else 4 : Int32) else 10 : Int32)))]) (rest := []) ⟨hx, hb, hml, hown, hts⟩ (k_X7_setWord l dC dI cI mO memA dskA rgA inA outA H.size (sMW_spent u (if (4 : Int32) ≤ a1 then (if a1 = (4 : Int32) then 18 else 4 : Int32) else 10 : Int32)) (gMW_sp (sMW_spent u (if (4 : Int32) ≤ a1 then (if a1 = (4 : Int32) then 18 else 4 : Int32) else 10 : Int32))) (f_X7_hl (sMW_spent u (if (4 : Int32) ≤ a1 then (if a1 = (4 : Int32) then 18 else 4 : Int32) else 10 : Int32)))) (cwV 2 hts gX7_special_X7_setWord rfl rfl rfl (by decide +kernel) ⟨Nat.le_of_ble_eq_true rfl, Nat.le_of_ble_eq_true rfl⟩) ⟨fun a U g mk q => by obtain ⟨q0, q1, qP, qK, qD⟩ := q; exact ⟨q0, q1, qP, va_K.moved (u := U) (U := U.calling g mk a) (Vm.Alike.refl U.vm) qK, qD⟩, va_recv hKc hPc (ci := 7) (q0 := 0) rfl rfl, fun U hU hW => ⟨rfl, by rw [hU], by rw [hU]; exact hPc, va_K.moved hW.alike hKc, hDc.weaken (fun _ _ _ _ => trivial)⟩⟩ rfl rfl hl.1 rfl (lv_room (Nat.le_of_ble_eq_true rfl)) dX7_special_110 ⟨Nat.le_of_ble_eq_true rfl, Nat.le_of_ble_eq_true rfl⟩) hS (fun q _ h => hFc q h) hFc (fun u9 t H1 locs ht hvm hw hB hz1 hk1 hS => ?_)
            subst hw
            obtain ⟨hP1, hK1, hD1⟩ := hB
            rw [ht] at hP1
            obtain ⟨hP, hD⟩ := jM_M hP hD hk1 hFc hP1 hD1
            clear hPc hDc hKc hFc hz1 hk1 hP1 hK1 hD1 ht hvm
            generalize H1 = H at hP hS ⊢
            refine lv_aload_n hx hb dX7_special_113 rfl (lv_at hl 1 rfl) ?_
            refine lv_iconst (v := 2) hx hb dX7_special_114 (by decide) ?_
            refine lv_iload_n hx hb dX7_special_115 rfl (lv_at hl 0 rfl) ?_
            obtain ⟨hPc, hDc, hFc⟩ := xM_M hP hD hS hA
            have hKc := hK.sub (tys' := [(cI, .int)]) [0] rfl
            refine va_callv (va_runV (As := [.int 2, .int y12]) (rest := []) ⟨hx, hb, hml, hown, hts⟩ (k_X7_setPair l dC dI cI mO memA dskA rgA inA outA H.size (f_X7_setWord (sMW_spent u (if (4 : Int32) ≤ a1 then (if a1 = (4 : Int32) then 18 else 4 : Int32) else 10 : Int32)) (gMW_sp (sMW_spent u (if (4 : Int32) ≤ a1 then (if a1 = (4 : Int32) then 18 else 4 : Int32) else 10 : Int32))) (f_X7_hl (sMW_spent u (if (4 : Int32) ≤ a1 then (if a1 = (4 : Int32) then 18 else 4 : Int32) else 10 : Int32)))) 2 y12 (ix_lit (by decide))) (cwV 2 hts gX7_special_X7_setPair rfl rfl rfl (by decide +kernel) ⟨Nat.le_of_ble_eq_true rfl, Nat.le_of_ble_eq_true rfl⟩) ⟨fun a U g mk q => by obtain ⟨q0, q1, qP, qK, qD⟩ := q; exact ⟨q0, q1, qP, va_K.moved (u := U) (U := U.calling g mk a) (Vm.Alike.refl U.vm) qK, qD⟩, va_recv hKc hPc (ci := 7) (q0 := 0) rfl rfl, fun U hU hW => ⟨rfl, by rw [hU], by rw [hU]; exact hPc, va_K.moved hW.alike hKc, hDc.weaken (fun _ _ _ _ => trivial)⟩⟩ rfl rfl hl.1 rfl (lv_room (Nat.le_of_ble_eq_true rfl)) dX7_special_116 ⟨Nat.le_of_ble_eq_true rfl, Nat.le_of_ble_eq_true rfl⟩) hS (fun q _ h => hFc q h) hFc (fun u9 t H1 locs ht hvm hw hB hz1 hk1 hS => ?_)
            subst hw
            obtain ⟨hP1, hK1, hD1⟩ := hB
            rw [ht] at hP1
            obtain ⟨hP, hD⟩ := jM_M hP hD hk1 hFc hP1 hD1
            clear hPc hDc hKc hFc hz1 hk1 hP1 hK1 hD1 ht hvm
            generalize H1 = H at hP hS ⊢
            refine lv_goto (tgt := 181) hx hb dX7_special_119 (by decide) ?_
            exact W.vret hx hb hr (fun t ht hW => ⟨⟨(f_X7_setPair (f_X7_setWord (sMW_spent u (if (4 : Int32) ≤ a1 then (if a1 = (4 : Int32) then 18 else 4 : Int32) else 10 : Int32)) (gMW_sp (sMW_spent u (if (4 : Int32) ≤ a1 then (if a1 = (4 : Int32) then 18 else 4 : Int32) else 10 : Int32))) (f_X7_hl (sMW_spent u (if (4 : Int32) ≤ a1 then (if a1 = (4 : Int32) then 18 else 4 : Int32) else 10 : Int32)))) 2 y12), rfl, (by subst ey12; simp only [f_X7_special, if_pos c2, if_neg c3, if_neg c4, if_pos c5]), by rw [ht]; exact hP, va_K.moved hW.alike hK, hD⟩, hS.F ht⟩) hS.2.2 dX7_special_181
        · skip
          refine lv_aload_n hx hb dX7_special_69 rfl (lv_at hl 0 rfl) ?_
          refine va_get (D := (dC, dI)) (ci := 7) (v := .ref rgA) (C := RX7) (T := TX7) (N := 30) hx hb hts iX7_special_X7 hown hK hP 0 rfl rfl 3 (by decide) (hts _ qX7_special_4) (fun _ h9 => h9) rfl dX7_special_70 ?_
          refine lv_bipush (v := 7) hx hb dX7_special_73 (by decide) ?_
          refine lv_aload_n hx hb dX7_special_75 rfl (lv_at hl 0 rfl) ?_
          refine lv_aload_n hx hb dX7_special_76 rfl (lv_at hl 0 rfl) ?_
          obtain ⟨hPc, hDc, hFc⟩ := xM_M hP hD hS hA
          have hKc := hK.sub (tys' := [(cI, .int)]) [0] rfl
          refine va_calli (va_runV (As := []) (rest := [.ref mO, .int 7, .ref rgA]) ⟨hx, hb, hml, hown, hts⟩ (k_X7_next l dC dI cI mO memA dskA rgA inA outA H.size (sMW_spent u (if (4 : Int32) ≤ a1 then (if a1 = (4 : Int32) then 18 else 4 : Int32) else 10 : Int32))) (cwV 0 hts gX7_special_X7_next rfl rfl rfl (by decide +kernel) ⟨Nat.le_of_ble_eq_true rfl, Nat.le_of_ble_eq_true rfl⟩) ⟨fun a U g mk q => by obtain ⟨q0, q1, qP, qK, qD⟩ := q; exact ⟨q0, q1, qP, va_K.moved (u := U) (U := U.calling g mk a) (Vm.Alike.refl U.vm) qK, qD⟩, va_recv hKc hPc (ci := 7) (q0 := 0) rfl rfl, fun U hU hW => ⟨rfl, by rw [hU], by rw [hU]; exact hPc, va_K.moved hW.alike hKc, hDc.weaken (fun _ _ _ _ => trivial)⟩⟩ rfl rfl hl.1 rfl (lv_room (Nat.le_of_ble_eq_true rfl)) dX7_special_77 ⟨Nat.le_of_ble_eq_true rfl, Nat.le_of_ble_eq_true rfl⟩) hS (fun q _ h => hFc q h) hFc (fun r9 u9 t H1 locs ht hvm hw hB hz1 hk1 hS => ?_)
          obtain ⟨rfl, rfl⟩ := hw
          obtain ⟨hP1, hK1, hD1⟩ := hB
          rw [ht] at hP1
          obtain ⟨hP, hD⟩ := jM_M hP hD hk1 hFc hP1 hD1
          clear hPc hDc hKc hFc hz1 hk1 hP1 hK1 hD1 ht hvm
          generalize H1 = H at hP hS ⊢
          obtain ⟨hPc, hDc, hFc⟩ := xM_M hP hD hS hA
          have hKc := hK.sub (tys' := [(cI, .int)]) [0] rfl
          refine va_calli (va_runV (As := [.int (f_X7_next (sMW_spent u (if (4 : Int32) ≤ a1 then (if a1 = (4 : Int32) then 18 else 4 : Int32) else 10 : Int32))).1]) (rest := [.int 7, .ref rgA]) ⟨hx, hb, hml, hown, hts⟩ (k_X7_in l dC dI cI mO memA dskA rgA inA outA H.size (f_X7_next (sMW_spent u (if (4 : Int32) ≤ a1 then (if a1 = (4 : Int32) then 18 else 4 : Int32) else 10 : Int32))).2 (f_X7_next (sMW_spent u (if (4 : Int32) ≤ a1 then (if a1 = (4 : Int32) then 18 else 4 : Int32) else 10 : Int32))).1 hI) (cwV 1 hts gX7_special_X7_in rfl rfl rfl (by decide +kernel) ⟨Nat.le_of_ble_eq_true rfl, Nat.le_of_ble_eq_true rfl⟩) ⟨fun a U g mk q => by obtain ⟨q0, q1, qP, qK, qD⟩ := q; exact ⟨q0, q1, qP, va_K.moved (u := U) (U := U.calling g mk a) (Vm.Alike.refl U.vm) qK, qD⟩, va_recv hKc hPc (ci := 7) (q0 := 0) rfl rfl, fun U hU hW => ⟨rfl, by rw [hU], by rw [hU]; exact hPc, va_K.moved hW.alike hKc, hDc.weaken (fun _ _ _ _ => trivial)⟩⟩ rfl rfl hl.1 rfl (lv_room (Nat.le_of_ble_eq_true rfl)) dX7_special_80 ⟨Nat.le_of_ble_eq_true rfl, Nat.le_of_ble_eq_true rfl⟩) hS (fun q _ h => hFc q h) hFc (fun r9 u9 t H1 locs ht hvm hw hB hz1 hk1 hS => ?_)
          obtain ⟨rfl, rfl⟩ := hw
          obtain ⟨hP1, hK1, hD1⟩ := hB
          rw [ht] at hP1
          obtain ⟨hP, hD⟩ := jM_M hP hD hk1 hFc hP1 hD1
          clear hPc hDc hKc hFc hz1 hk1 hP1 hK1 hD1 ht hvm
          generalize H1 = H at hP hS ⊢
          refine va_iast (f := (gMW_r (f_X7_in (f_X7_next (sMW_spent u (if (4 : Int32) ≤ a1 then (if a1 = (4 : Int32) then 18 else 4 : Int32) else 10 : Int32))).2 (f_X7_next (sMW_spent u (if (4 : Int32) ≤ a1 then (if a1 = (4 : Int32) then 18 else 4 : Int32) else 10 : Int32))).1).2)) hx hb hK hP hD hS 3 0 rfl rfl (ix_lit (by decide)) dX7_special_83 (fun H locs hP hD hS => ?_)
          obtain ⟨hP, hD⟩ := aM_rgA hP hD
          refine lv_goto (tgt := 181) hx hb dX7_special_84 (by decide) ?_
          exact W.vret hx hb hr (fun t ht hW => ⟨⟨(sMW_r (f_X7_in (f_X7_next (sMW_spent u (if (4 : Int32) ≤ a1 then (if a1 = (4 : Int32) then 18 else 4 : Int32) else 10 : Int32))).2 (f_X7_next (sMW_spent u (if (4 : Int32) ≤ a1 then (if a1 = (4 : Int32) then 18 else 4 : Int32) else 10 : Int32))).1).2 (upd (gMW_r (f_X7_in (f_X7_next (sMW_spent u (if (4 : Int32) ≤ a1 then (if a1 = (4 : Int32) then 18 else 4 : Int32) else 10 : Int32))).2 (f_X7_next (sMW_spent u (if (4 : Int32) ≤ a1 then (if a1 = (4 : Int32) then 18 else 4 : Int32) else 10 : Int32))).1).2) (7 : Int32).toNatClampNeg (f_X7_in (f_X7_next (sMW_spent u (if (4 : Int32) ≤ a1 then (if a1 = (4 : Int32) then 18 else 4 : Int32) else 10 : Int32))).2 (f_X7_next (sMW_spent u (if (4 : Int32) ≤ a1 then (if a1 = (4 : Int32) then 18 else 4 : Int32) else 10 : Int32))).1).1)), rfl, (by simp only [f_X7_special, if_pos c2, if_neg c3, if_pos c4]), by rw [ht]; exact hP, va_K.moved hW.alike hK, hD⟩, hS.F ht⟩) hS.2.2 dX7_special_181
      · skip
        refine lv_aload_n hx hb dX7_special_46 rfl (lv_at hl 0 rfl) ?_
        refine lv_aload_n hx hb dX7_special_47 rfl (lv_at hl 0 rfl) ?_
        obtain ⟨hPc, hDc, hFc⟩ := xM_M hP hD hS hA
        have hKc := hK.sub (tys' := [(cI, .int)]) [0] rfl
        refine va_calli (va_runV (As := []) (rest := [.ref mO]) ⟨hx, hb, hml, hown, hts⟩ (k_X7_next l dC dI cI mO memA dskA rgA inA outA H.size (sMW_spent u (if (4 : Int32) ≤ a1 then (if a1 = (4 : Int32) then 18 else 4 : Int32) else 10 : Int32))) (cwV 0 hts gX7_special_X7_next rfl rfl rfl (by decide +kernel) ⟨Nat.le_of_ble_eq_true rfl, Nat.le_of_ble_eq_true rfl⟩) ⟨fun a U g mk q => by obtain ⟨q0, q1, qP, qK, qD⟩ := q; exact ⟨q0, q1, qP, va_K.moved (u := U) (U := U.calling g mk a) (Vm.Alike.refl U.vm) qK, qD⟩, va_recv hKc hPc (ci := 7) (q0 := 0) rfl rfl, fun U hU hW => ⟨rfl, by rw [hU], by rw [hU]; exact hPc, va_K.moved hW.alike hKc, hDc.weaken (fun _ _ _ _ => trivial)⟩⟩ rfl rfl hl.1 rfl (lv_room (Nat.le_of_ble_eq_true rfl)) dX7_special_48 ⟨Nat.le_of_ble_eq_true rfl, Nat.le_of_ble_eq_true rfl⟩) hS (fun q _ h => hFc q h) hFc (fun r9 u9 t H1 locs ht hvm hw hB hz1 hk1 hS => ?_)
        obtain ⟨rfl, rfl⟩ := hw
        obtain ⟨hP1, hK1, hD1⟩ := hB
        rw [ht] at hP1
        obtain ⟨hP, hD⟩ := jM_M hP hD hk1 hFc hP1 hD1
        clear hPc hDc hKc hFc hz1 hk1 hP1 hK1 hD1 ht hvm
        generalize H1 = H at hP hS ⊢
        refine lv_aload_n hx hb dX7_special_51 rfl (lv_at hl 0 rfl) ?_
        refine va_get (D := (dC, dI)) (ci := 7) (v := .ref rgA) (C := RX7) (T := TX7) (N := 30) hx hb hts iX7_special_X7 hown hK hP 0 rfl rfl 3 (by decide) (hts _ qX7_special_4) (fun _ h9 => h9) rfl dX7_special_52 ?_
        refine lv_bipush (v := 7) hx hb dX7_special_55 (by decide) ?_
        refine va_iald (f := (gMW_r (f_X7_next (sMW_spent u (if (4 : Int32) ≤ a1 then (if a1 = (4 : Int32) then 18 else 4 : Int32) else 10 : Int32))).2)) hx hb hK hP 3 0 rfl rfl (ix_lit (by decide)) dX7_special_57 ?_
        obtain ⟨hPc, hDc, hFc⟩ := xM_M hP hD hS hA
        have hKc := hK.sub (tys' := [(cI, .int)]) [0] rfl
        refine va_callv (va_runV (As := [.int (f_X7_next (sMW_spent u (if (4 : Int32) ≤ a1 then (if a1 = (4 : Int32) then 18 else 4 : Int32) else 10 : Int32))).1, .int ((gMW_r (f_X7_next (sMW_spent u (if (4 : Int32) ≤ a1 then (if a1 = (4 : Int32) then 18 else 4 : Int32) else 10 : Int32))).2) (7 : Int32).toNatClampNeg)]) (rest := []) ⟨hx, hb, hml, hown, hts⟩ (k_X7_out l dC dI cI mO memA dskA rgA inA outA H.size (f_X7_next (sMW_spent u (if (4 : Int32) ≤ a1 then (if a1 = (4 : Int32) then 18 else 4 : Int32) else 10 : Int32))).2 (f_X7_next (sMW_spent u (if (4 : Int32) ≤ a1 then (if a1 = (4 : Int32) then 18 else 4 : Int32) else 10 : Int32))).1 ((gMW_r (f_X7_next (sMW_spent u (if (4 : Int32) ≤ a1 then (if a1 = (4 : Int32) then 18 else 4 : Int32) else 10 : Int32))).2) (7 : Int32).toNatClampNeg) hO) (cwV 2 hts gX7_special_X7_out rfl rfl rfl (by decide +kernel) ⟨Nat.le_of_ble_eq_true rfl, Nat.le_of_ble_eq_true rfl⟩) ⟨fun a U g mk q => by obtain ⟨q0, q1, qP, qK, qD⟩ := q; exact ⟨q0, q1, qP, va_K.moved (u := U) (U := U.calling g mk a) (Vm.Alike.refl U.vm) qK, qD⟩, va_recv hKc hPc (ci := 7) (q0 := 0) rfl rfl, fun U hU hW => ⟨rfl, by rw [hU], by rw [hU]; exact hPc, va_K.moved hW.alike hKc, hDc.weaken (fun _ _ _ _ => trivial)⟩⟩ rfl rfl hl.1 rfl (lv_room (Nat.le_of_ble_eq_true rfl)) dX7_special_58 ⟨Nat.le_of_ble_eq_true rfl, Nat.le_of_ble_eq_true rfl⟩) hS (fun q _ h => hFc q h) hFc (fun u9 t H1 locs ht hvm hw hB hz1 hk1 hS => ?_)
        subst hw
        obtain ⟨hP1, hK1, hD1⟩ := hB
        rw [ht] at hP1
        obtain ⟨hP, hD⟩ := jM_M hP hD hk1 hFc hP1 hD1
        clear hPc hDc hKc hFc hz1 hk1 hP1 hK1 hD1 ht hvm
        generalize H1 = H at hP hS ⊢
        refine lv_goto (tgt := 181) hx hb dX7_special_61 (by decide) ?_
        exact W.vret hx hb hr (fun t ht hW => ⟨⟨(f_X7_out (f_X7_next (sMW_spent u (if (4 : Int32) ≤ a1 then (if a1 = (4 : Int32) then 18 else 4 : Int32) else 10 : Int32))).2 (f_X7_next (sMW_spent u (if (4 : Int32) ≤ a1 then (if a1 = (4 : Int32) then 18 else 4 : Int32) else 10 : Int32))).1 ((gMW_r (f_X7_next (sMW_spent u (if (4 : Int32) ≤ a1 then (if a1 = (4 : Int32) then 18 else 4 : Int32) else 10 : Int32))).2) (7 : Int32).toNatClampNeg)), rfl, (by simp only [f_X7_special, if_pos c2, if_pos c3]), by rw [ht]; exact hP, va_K.moved hW.alike hK, hD⟩, hS.F ht⟩) hS.2.2 dX7_special_181
    · skip
      refine lv_aload_n hx hb dX7_special_30 rfl (lv_at hl 0 rfl) ?_
      refine lv_aload_n hx hb dX7_special_31 rfl (lv_at hl 0 rfl) ?_
      obtain ⟨hPc, hDc, hFc⟩ := xM_M hP hD hS hA
      have hKc := hK.sub (tys' := [(cI, .int)]) [0] rfl
      refine va_calli (va_runV (As := []) (rest := [.ref mO]) ⟨hx, hb, hml, hown, hts⟩ (k_X7_nextWord l dC dI cI mO memA dskA rgA inA outA H.size (sMW_spent u (if (4 : Int32) ≤ a1 then (if a1 = (4 : Int32) then 18 else 4 : Int32) else 10 : Int32))) (cwV 0 hts gX7_special_X7_nextWord rfl rfl rfl (by decide +kernel) ⟨Nat.le_of_ble_eq_true rfl, Nat.le_of_ble_eq_true rfl⟩) ⟨fun a U g mk q => by obtain ⟨q0, q1, qP, qK, qD⟩ := q; exact ⟨q0, q1, qP, va_K.moved (u := U) (U := U.calling g mk a) (Vm.Alike.refl U.vm) qK, qD⟩, va_recv hKc hPc (ci := 7) (q0 := 0) rfl rfl, fun U hU hW => ⟨rfl, by rw [hU], by rw [hU]; exact hPc, va_K.moved hW.alike hKc, hDc.weaken (fun _ _ _ _ => trivial)⟩⟩ rfl rfl hl.1 rfl (lv_room (Nat.le_of_ble_eq_true rfl)) dX7_special_32 ⟨Nat.le_of_ble_eq_true rfl, Nat.le_of_ble_eq_true rfl⟩) hS (fun q _ h => hFc q h) hFc (fun r9 u9 t H1 locs ht hvm hw hB hz1 hk1 hS => ?_)
      obtain ⟨rfl, rfl⟩ := hw
      obtain ⟨hP1, hK1, hD1⟩ := hB
      rw [ht] at hP1
      obtain ⟨hP, hD⟩ := jM_M hP hD hk1 hFc hP1 hD1
      clear hPc hDc hKc hFc hz1 hk1 hP1 hK1 hD1 ht hvm
      generalize H1 = H at hP hS ⊢
      refine va_put (D := (dC, dI)) (ci := 7) (v := .int (f_X7_nextWord (sMW_spent u (if (4 : Int32) ≤ a1 then (if a1 = (4 : Int32) then 18 else 4 : Int32) else 10 : Int32))).1) (ty := .int) (C := RX7) (T := TX7) (N := 30) hx hb hts iX7_special_X7 tyX7 tyX7_ok nmX7 hown hK hP hD hS 0 rfl rfl 9 (by decide) (hts _ qX7_special_5) (fun _ h9 => h9) rfl (by decide +kernel) rfl rfl (Nat.le_of_ble_eq_true rfl) dX7_special_35 (fun H locs hP hD hS => ?_)
      obtain ⟨hP, hD⟩ := pM_pc hP hD
      refine lv_goto (tgt := 181) hx hb dX7_special_38 (by decide) ?_
      exact W.vret hx hb hr (fun t ht hW => ⟨⟨(sMW_pc (f_X7_nextWord (sMW_spent u (if (4 : Int32) ≤ a1 then (if a1 = (4 : Int32) then 18 else 4 : Int32) else 10 : Int32))).2 (f_X7_nextWord (sMW_spent u (if (4 : Int32) ≤ a1 then (if a1 = (4 : Int32) then 18 else 4 : Int32) else 10 : Int32))).1), rfl, (by simp only [f_X7_special, if_neg c2]), by rw [ht]; exact hP, va_K.moved hW.alike hK, hD⟩, hS.F ht⟩) hS.2.2 dX7_special_181
  · skip
    refine lv_icmp_ge (tgt := 11) hx hb dX7_special_3 (by decide) (fun c13 => ?_) (fun c13 => ?_)
    · skip
      refine lv_iload_n hx hb dX7_special_11 rfl (lv_at hl 1 rfl) ?_
      refine lv_iconst (v := 4) hx hb dX7_special_12 (by decide) ?_
      refine jn_i (D := (dC, dI)) (cl := vwCl) (ws := (wM cI mO memA dskA rgA inA outA u)) (A := A) (H0 := s.heap) (nL := 3) 22 (if a1 = (4 : Int32) then 18 else 4 : Int32) [(0, .ref mO), (1, .int a1)] [.ref mO] (fun H locs ls hP hS hl => ?_) (fun hJ14 => ?_)
      · skip
        exact hJ1 (if a1 = (4 : Int32) then 18 else 4 : Int32) _ _ _ (by simp only [if_pos c13]) hP hS (lv_sub hl [0, 1] rfl)
      · skip
        refine lv_icmp_ne (tgt := 21) hx hb dX7_special_13 (by decide) (fun c15 => ?_) (fun c15 => ?_)
        · skip
          refine lv_iconst (v := 4) hx hb dX7_special_21 (by decide) ?_
          exact hJ14 4 _ _ _ (by simp only [if_neg c15]) hP hS (lv_sub hl [0, 1] rfl)
        · skip
          refine lv_bipush (v := 18) hx hb dX7_special_16 (by decide) ?_
          refine lv_goto (tgt := 22) hx hb dX7_special_18 (by decide) ?_
          exact hJ14 18 _ _ _ (by simp only [if_pos c15]) hP hS (lv_sub hl [0, 1] rfl)
    · skip
      refine lv_bipush (v := 10) hx hb dX7_special_6 (by decide) ?_
      refine lv_goto (tgt := 22) hx hb dX7_special_8 (by decide) ?_
      exact hJ1 10 _ _ _ (by simp only [if_neg c13]) hP hS (lv_sub hl [0, 1] rfl)

def f_X7_zero (u : MW) (a1 : Int32) (a2 : Int32) : MW := 
  if a2 = 0 then (sMW_spent u 4)
  else 
    if a2 = 1 then 
      if (bI (if (a1 - a1 / (2 : Int32) * (2 : Int32)) = (1 : Int32) then true else false : Bool)) = (0 : Int32) then (f_X7_setPair (f_X7_nextWord (sMW_spent u 10)).2 (a1 / (2 : Int32)) (f_X7_nextWord (sMW_spent u 10)).1)
      else (f_X7_setPair (sMW_c (sMW_spent u 10) (if ((f_X7_hl (sMW_spent u 10)) + (f_X7_pair (sMW_spent u 10) (a1 / (2 : Int32)))) ≤ (65535 : Int32) then false else true : Bool)) 2 ((f_X7_hl (sMW_spent u 10)) + (f_X7_pair (sMW_spent u 10) (a1 / (2 : Int32)))))
    else 
      if a2 = 2 then (f_X7_byAddress u a1)
      else 
        if a2 = 3 then (f_X7_setPair (sMW_spent u 5) (a1 / (2 : Int32)) (if (bI (if (a1 - a1 / (2 : Int32) * (2 : Int32)) = (1 : Int32) then true else false : Bool)) = (0 : Int32) then ((f_X7_pair (sMW_spent u 5) (a1 / (2 : Int32))) + (1 : Int32)) else ((f_X7_pair (sMW_spent u 5) (a1 / (2 : Int32))) - (1 : Int32)) : Int32))
        else 
          if a2 = 4 then (f_X7_logic (f_X7_setReg (sMW_h (sMW_spent u (if a1 = (6 : Int32) then 10 else 5 : Int32)) (if a2 = (4 : Int32) then (if (((if a2 = (4 : Int32) then ((f_X7_reg (sMW_spent u (if a1 = (6 : Int32) then 10 else 5 : Int32)) a1) + (1 : Int32)) else ((f_X7_reg (sMW_spent u (if a1 = (6 : Int32) then 10 else 5 : Int32)) a1) - (1 : Int32)) : Int32) &&& (255 : Int32)) &&& (15 : Int32)) = (0 : Int32) then true else false : Bool) else (if (((if a2 = (4 : Int32) then ((f_X7_reg (sMW_spent u (if a1 = (6 : Int32) then 10 else 5 : Int32)) a1) + (1 : Int32)) else ((f_X7_reg (sMW_spent u (if a1 = (6 : Int32) then 10 else 5 : Int32)) a1) - (1 : Int32)) : Int32) &&& (255 : Int32)) &&& (15 : Int32)) = (15 : Int32) then false else true : Bool) : Bool)) a1 ((if a2 = (4 : Int32) then ((f_X7_reg (sMW_spent u (if a1 = (6 : Int32) then 10 else 5 : Int32)) a1) + (1 : Int32)) else ((f_X7_reg (sMW_spent u (if a1 = (6 : Int32) then 10 else 5 : Int32)) a1) - (1 : Int32)) : Int32) &&& (255 : Int32))) ((if a2 = (4 : Int32) then ((f_X7_reg (sMW_spent u (if a1 = (6 : Int32) then 10 else 5 : Int32)) a1) + (1 : Int32)) else ((f_X7_reg (sMW_spent u (if a1 = (6 : Int32) then 10 else 5 : Int32)) a1) - (1 : Int32)) : Int32) &&& (255 : Int32)))
          else 
            if a2 = 5 then (f_X7_logic (f_X7_setReg (sMW_h (sMW_spent u (if a1 = (6 : Int32) then 10 else 5 : Int32)) (if a2 = (4 : Int32) then (if (((if a2 = (4 : Int32) then ((f_X7_reg (sMW_spent u (if a1 = (6 : Int32) then 10 else 5 : Int32)) a1) + (1 : Int32)) else ((f_X7_reg (sMW_spent u (if a1 = (6 : Int32) then 10 else 5 : Int32)) a1) - (1 : Int32)) : Int32) &&& (255 : Int32)) &&& (15 : Int32)) = (0 : Int32) then true else false : Bool) else (if (((if a2 = (4 : Int32) then ((f_X7_reg (sMW_spent u (if a1 = (6 : Int32) then 10 else 5 : Int32)) a1) + (1 : Int32)) else ((f_X7_reg (sMW_spent u (if a1 = (6 : Int32) then 10 else 5 : Int32)) a1) - (1 : Int32)) : Int32) &&& (255 : Int32)) &&& (15 : Int32)) = (15 : Int32) then false else true : Bool) : Bool)) a1 ((if a2 = (4 : Int32) then ((f_X7_reg (sMW_spent u (if a1 = (6 : Int32) then 10 else 5 : Int32)) a1) + (1 : Int32)) else ((f_X7_reg (sMW_spent u (if a1 = (6 : Int32) then 10 else 5 : Int32)) a1) - (1 : Int32)) : Int32) &&& (255 : Int32))) ((if a2 = (4 : Int32) then ((f_X7_reg (sMW_spent u (if a1 = (6 : Int32) then 10 else 5 : Int32)) a1) + (1 : Int32)) else ((f_X7_reg (sMW_spent u (if a1 = (6 : Int32) then 10 else 5 : Int32)) a1) - (1 : Int32)) : Int32) &&& (255 : Int32)))
            else 
              if a2 = 6 then (f_X7_setReg (f_X7_next (sMW_spent u (if a1 = (6 : Int32) then 10 else 7 : Int32))).2 a1 (f_X7_next (sMW_spent u (if a1 = (6 : Int32) then 10 else 7 : Int32))).1)
              else (f_X7_turn (sMW_spent u 4) a1)
theorem qX7_zero_0 : Cond.fieldLink RX7 141 "DiskMachineModel" "spent" "I" ∈ wsX7_zero := by decide +kernel
theorem qX7_zero_1 : Cond.fieldLink RX7 74 "DiskMachineModel" "half" "Z" ∈ wsX7_zero := by decide +kernel
theorem qX7_zero_2 : Cond.constant RX7 50 (65535) ∈ wsX7_zero := by decide +kernel
theorem qX7_zero_3 : Cond.fieldLink RX7 80 "DiskMachineModel" "carry" "Z" ∈ wsX7_zero := by decide +kernel
theorem iX7_zero_X7 : ∀ w ∈ wsX70, w ∈ wsX7_zero := by decide +kernel
set_option maxHeartbeats 4000000 in
set_option maxRecDepth 100000 in
theorem k_X7_zero (l : Launch) (dC : Nat → ClassId) (dI : Nat → Nat → Nat) (cI : ClassId) (mO memA dskA rgA inA outA : Nat) (sz : Nat) (u : MW) (a1 : Int32) (a2 : Int32) (h1 : vp_in a1 8) : Met l yX7_zero wsX7_zero ({ frames := 4, cells := 0, slots := 0, locals := 85 }) (va_Pc [.ref mO, .int a1, .int a2] (wB dC dI [(cI, .int)] sz (wM cI mO memA dskA rgA inA outA u))) (va_Qv (fun u' : MW => u' = (f_X7_zero u a1 a2)) (fun u' => wE dC dI [(cI, .int)] (va_A (wM cI mO memA dskA rgA inA outA u) sz) (wM cI mO memA dskA rgA inA outA u')) (va_A (wM cI mO memA dskA rgA inA outA u) sz)) 0 0 (va_A (wM cI mO memA dskA rgA inA outA u) sz) := by
  refine Met.ofW (cc := cX7_zero) (maxL := 6) (ret := none) (by decide) rfl ?_
  intro p e s m args below meth c s₁ B hml hv
  obtain ⟨rfl, hsz, hP, hK, hD0⟩ := hv
  have hx := B.exec
  have hb := B.bytes
  have hr := B.returns
  have hts := atoms_spec (ws := wsX7_zero) B.pre
  have hown : s.vm.findClass RX7 = some m.cls := findClass_of_methodNamed B.named
  have hlocks := B.notSynchronized
  subst hsz
  have hD := hD0.self (sz := s.heap.size)
  generalize hAe : va_A (wM cI mO memA dskA rgA inA outA u) s.heap.size = A at hD ⊢
  have hA : ∀ q : Nat, s.heap.size ≤ q → A q := fun q h => by rw [← hAe]; exact Or.inr h
  have hS : va_S A s.heap s.heap [] := va_S.rf
  have hP : va_P (dC, dI) vwCl (wM cI mO memA dskA rgA inA outA u) s.heap := hP
  clear hAe hD0
  have hl := lv_entry ([.ref mO, .int a1, .int a2]) (n := 6) (Nat.le_of_ble_eq_true rfl)
  rw [lg_entry_eq]
  generalize (lg_sl ([.ref mO, .int a1, .int a2]) ++ List.replicate (6 - (lg_sl ([.ref mO, .int a1, .int a2])).length) Slot.unset).toArray = ls at hl ⊢
  have hl : lv_has ls 6 [(0, .ref mO), (1, .int a1), (2, .int a2)] := hl
  refine jn_H hP hS (fun H locs hP hS => ?_)
  refine lv_iload_n hx hb dX7_zero_0 rfl (lv_at hl 1 rfl) ?_
  refine lv_iconst (v := 2) hx hb dX7_zero_1 (by decide) ?_
  refine lv_idiv hx hb dX7_zero_2 (by decide) ?_
  refine lv_istore_n (lv' := [(3, .int (a1 / (2 : Int32))), (0, .ref mO), (1, .int a1), (2, .int a2)]) hx hb dX7_zero_3 rfl hl (by decide) rfl (fun ls hl => ?_)
  refine lv_iload_n hx hb dX7_zero_4 rfl (lv_at hl 2 rfl) ?_
  refine lv_iconst (v := 2) hx hb dX7_zero_5 (by decide) ?_
  refine lv_irem hx hb dX7_zero_6 (by decide) ?_
  refine lv_iconst (v := 1) hx hb dX7_zero_7 (by decide) ?_
  refine jn_b (D := (dC, dI)) (cl := vwCl) (ws := (wM cI mO memA dskA rgA inA outA u)) (A := A) (H0 := s.heap) (nL := 6) 16 (if (a1 - a1 / (2 : Int32) * (2 : Int32)) = (1 : Int32) then true else false : Bool) [(0, .ref mO), (1, .int a1), (2, .int a2), (3, .int (a1 / (2 : Int32)))] [] (fun H locs ls hP hS hl => ?_) (fun hJ1 => ?_)
  · skip
    refine lv_istore (lv' := [(4, .int (bI (if (a1 - a1 / (2 : Int32) * (2 : Int32)) = (1 : Int32) then true else false : Bool))), (0, .ref mO), (1, .int a1), (2, .int a2), (3, .int (a1 / (2 : Int32)))]) hx hb dX7_zero_16 hl (by decide) rfl (fun ls hl => ?_)
    refine lv_iload_n hx hb dX7_zero_18 rfl (lv_at hl 3 rfl) ?_
    by_cases c2 : a2 = 0
    · refine tb_in (k := 0) (off := 41) (tgt := 60) hx hb dX7_zero_19 c2 (by decide) (by decide) (by decide) (by decide) ?_
      refine lv_aload_n hx hb dX7_zero_60 rfl (lv_at hl 1 rfl) ?_
      refine lv_iconst (v := 4) hx hb dX7_zero_61 (by decide) ?_
      refine va_put (D := (dC, dI)) (ci := 7) (v := .int 4) (ty := .int) (C := RX7) (T := TX7) (N := 30) hx hb hts iX7_zero_X7 tyX7 tyX7_ok nmX7 hown hK hP hD hS 0 rfl rfl 16 (by decide) (hts _ qX7_zero_0) (fun _ h9 => h9) rfl (by decide +kernel) rfl rfl (Nat.le_of_ble_eq_true rfl) dX7_zero_62 (fun H locs hP hD hS => ?_)
      obtain ⟨hP, hD⟩ := pM_spent hP hD
      refine lv_goto (tgt := 311) hx hb dX7_zero_65 (by decide) ?_
      exact W.vret hx hb hr (fun t ht hW => ⟨⟨(sMW_spent u 4), rfl, (by simp only [f_X7_zero, if_pos c2]), by rw [ht]; exact hP, va_K.moved hW.alike hK, hD⟩, hS.F ht⟩) hS.2.2 dX7_zero_311
    · skip
      by_cases c3 : a2 = 1
      · refine tb_in (k := 1) (off := 49) (tgt := 68) hx hb dX7_zero_19 c3 (by decide) (by decide) (by decide) (by decide) ?_
        refine lv_aload_n hx hb dX7_zero_68 rfl (lv_at hl 1 rfl) ?_
        refine lv_bipush (v := 10) hx hb dX7_zero_69 (by decide) ?_
        refine va_put (D := (dC, dI)) (ci := 7) (v := .int 10) (ty := .int) (C := RX7) (T := TX7) (N := 30) hx hb hts iX7_zero_X7 tyX7 tyX7_ok nmX7 hown hK hP hD hS 0 rfl rfl 16 (by decide) (hts _ qX7_zero_0) (fun _ h9 => h9) rfl (by decide +kernel) rfl rfl (Nat.le_of_ble_eq_true rfl) dX7_zero_71 (fun H locs hP hD hS => ?_)
        obtain ⟨hP, hD⟩ := pM_spent hP hD
        refine lv_iload hx hb dX7_zero_74 (lv_at hl 0 rfl) ?_
        refine lv_if_eq (tgt := 117) hx hb dX7_zero_76 (by decide) (fun c4 => ?_) (fun c4 => ?_)
        · skip
          refine lv_aload_n hx hb dX7_zero_117 rfl (lv_at hl 1 rfl) ?_
          refine lv_iload_n hx hb dX7_zero_118 rfl (lv_at hl 4 rfl) ?_
          refine lv_aload_n hx hb dX7_zero_119 rfl (lv_at hl 1 rfl) ?_
          obtain ⟨hPc, hDc, hFc⟩ := xM_M hP hD hS hA
          have hKc := hK.sub (tys' := [(cI, .int)]) [0] rfl
          refine va_calli (va_runV (As := []) (rest := [.int (a1 / (2 : Int32)), .ref mO]) ⟨hx, hb, hml, hown, hts⟩ (k_X7_nextWord l dC dI cI mO memA dskA rgA inA outA H.size (sMW_spent u 10)) (cwV 0 hts gX7_zero_X7_nextWord rfl rfl rfl (by decide +kernel) ⟨Nat.le_of_ble_eq_true rfl, Nat.le_of_ble_eq_true rfl⟩) ⟨fun a U g mk q => by obtain ⟨q0, q1, qP, qK, qD⟩ := q; exact ⟨q0, q1, qP, va_K.moved (u := U) (U := U.calling g mk a) (Vm.Alike.refl U.vm) qK, qD⟩, va_recv hKc hPc (ci := 7) (q0 := 0) rfl rfl, fun U hU hW => ⟨rfl, by rw [hU], by rw [hU]; exact hPc, va_K.moved hW.alike hKc, hDc.weaken (fun _ _ _ _ => trivial)⟩⟩ rfl rfl hl.1 rfl (lv_room (Nat.le_of_ble_eq_true rfl)) dX7_zero_120 ⟨Nat.le_of_ble_eq_true rfl, Nat.le_of_ble_eq_true rfl⟩) hS (fun q _ h => hFc q h) hFc (fun r9 u9 t H1 locs ht hvm hw hB hz1 hk1 hS => ?_)
          obtain ⟨rfl, rfl⟩ := hw
          obtain ⟨hP1, hK1, hD1⟩ := hB
          rw [ht] at hP1
          obtain ⟨hP, hD⟩ := jM_M hP hD hk1 hFc hP1 hD1
          clear hPc hDc hKc hFc hz1 hk1 hP1 hK1 hD1 ht hvm
          generalize H1 = H at hP hS ⊢
          obtain ⟨hPc, hDc, hFc⟩ := xM_M hP hD hS hA
          have hKc := hK.sub (tys' := [(cI, .int)]) [0] rfl
          refine va_callv (va_runV (As := [.int (a1 / (2 : Int32)), .int (f_X7_nextWord (sMW_spent u 10)).1]) (rest := []) ⟨hx, hb, hml, hown, hts⟩ (k_X7_setPair l dC dI cI mO memA dskA rgA inA outA H.size (f_X7_nextWord (sMW_spent u 10)).2 (a1 / (2 : Int32)) (f_X7_nextWord (sMW_spent u 10)).1 (in_div2 h1)) (cwV 2 hts gX7_zero_X7_setPair rfl rfl rfl (by decide +kernel) ⟨Nat.le_of_ble_eq_true rfl, Nat.le_of_ble_eq_true rfl⟩) ⟨fun a U g mk q => by obtain ⟨q0, q1, qP, qK, qD⟩ := q; exact ⟨q0, q1, qP, va_K.moved (u := U) (U := U.calling g mk a) (Vm.Alike.refl U.vm) qK, qD⟩, va_recv hKc hPc (ci := 7) (q0 := 0) rfl rfl, fun U hU hW => ⟨rfl, by rw [hU], by rw [hU]; exact hPc, va_K.moved hW.alike hKc, hDc.weaken (fun _ _ _ _ => trivial)⟩⟩ rfl rfl hl.1 rfl (lv_room (Nat.le_of_ble_eq_true rfl)) dX7_zero_123 ⟨Nat.le_of_ble_eq_true rfl, Nat.le_of_ble_eq_true rfl⟩) hS (fun q _ h => hFc q h) hFc (fun u9 t H1 locs ht hvm hw hB hz1 hk1 hS => ?_)
          subst hw
          obtain ⟨hP1, hK1, hD1⟩ := hB
          rw [ht] at hP1
          obtain ⟨hP, hD⟩ := jM_M hP hD hk1 hFc hP1 hD1
          clear hPc hDc hKc hFc hz1 hk1 hP1 hK1 hD1 ht hvm
          generalize H1 = H at hP hS ⊢
          refine lv_goto (tgt := 311) hx hb dX7_zero_126 (by decide) ?_
          exact W.vret hx hb hr (fun t ht hW => ⟨⟨(f_X7_setPair (f_X7_nextWord (sMW_spent u 10)).2 (a1 / (2 : Int32)) (f_X7_nextWord (sMW_spent u 10)).1), rfl, (by simp only [f_X7_zero, if_neg c2, if_pos c3, if_pos c4]), by rw [ht]; exact hP, va_K.moved hW.alike hK, hD⟩, hS.F ht⟩) hS.2.2 dX7_zero_311
        · skip
          refine lv_aload_n hx hb dX7_zero_79 rfl (lv_at hl 1 rfl) ?_
          obtain ⟨hPc, hDc, hFc⟩ := xM_M hP hD hS hA
          have hKc := hK.sub (tys' := [(cI, .int)]) [0] rfl
          refine va_calli (va_runV (As := []) (rest := []) ⟨hx, hb, hml, hown, hts⟩ (k_X7_hl l dC dI cI mO memA dskA rgA inA outA H.size (sMW_spent u 10)) (cwV 0 hts gX7_zero_X7_hl rfl rfl rfl (by decide +kernel) ⟨Nat.le_of_ble_eq_true rfl, Nat.le_of_ble_eq_true rfl⟩) ⟨fun a U g mk q => by obtain ⟨q0, q1, qP, qK, qD⟩ := q; exact ⟨q0, q1, qP, va_K.moved (u := U) (U := U.calling g mk a) (Vm.Alike.refl U.vm) qK, qD⟩, va_recv hKc hPc (ci := 7) (q0 := 0) rfl rfl, fun U hU hW => ⟨rfl, by rw [hU], by rw [hU]; exact hPc, va_K.moved hW.alike hKc, hDc.weaken (fun _ _ _ _ => trivial)⟩⟩ rfl rfl hl.1 rfl (lv_room (Nat.le_of_ble_eq_true rfl)) dX7_zero_80 ⟨Nat.le_of_ble_eq_true rfl, Nat.le_of_ble_eq_true rfl⟩) hS (fun q _ h => hFc q h) hFc (fun r9 u9 t H1 locs ht hvm hw hB hz1 hk1 hS => ?_)
          obtain ⟨hw1, hw2⟩ := hw
          have hw2 := hw2.symm
          subst hw1 hw2
          obtain ⟨hP1, hK1, hD1⟩ := hB
          rw [ht] at hP1
          obtain ⟨hP, hD⟩ := jM_M0 hP hD hk1 hFc hP1 hD1
          clear hPc hDc hKc hFc hz1 hk1 hP1 hK1 hD1 ht hvm
          generalize H1 = H at hP hS ⊢
          refine lv_aload_n hx hb dX7_zero_83 rfl (lv_at hl 1 rfl) ?_
          refine lv_iload_n hx hb dX7_zero_84 rfl (lv_at hl 4 rfl) ?_
          obtain ⟨hPc, hDc, hFc⟩ := xM_M hP hD hS hA
          have hKc := hK.sub (tys' := [(cI, .int)]) [0] rfl
          refine va_calli (va_runV (As := [.int (a1 / (2 : Int32))]) (rest := [.int (f_X7_hl (sMW_spent u 10))]) ⟨hx, hb, hml, hown, hts⟩ (k_X7_pair l dC dI cI mO memA dskA rgA inA outA H.size (sMW_spent u 10) (a1 / (2 : Int32)) (in_div2 h1)) (cwV 1 hts gX7_zero_X7_pair rfl rfl rfl (by decide +kernel) ⟨Nat.le_of_ble_eq_true rfl, Nat.le_of_ble_eq_true rfl⟩) ⟨fun a U g mk q => by obtain ⟨q0, q1, qP, qK, qD⟩ := q; exact ⟨q0, q1, qP, va_K.moved (u := U) (U := U.calling g mk a) (Vm.Alike.refl U.vm) qK, qD⟩, va_recv hKc hPc (ci := 7) (q0 := 0) rfl rfl, fun U hU hW => ⟨rfl, by rw [hU], by rw [hU]; exact hPc, va_K.moved hW.alike hKc, hDc.weaken (fun _ _ _ _ => trivial)⟩⟩ rfl rfl hl.1 rfl (lv_room (Nat.le_of_ble_eq_true rfl)) dX7_zero_85 ⟨Nat.le_of_ble_eq_true rfl, Nat.le_of_ble_eq_true rfl⟩) hS (fun q _ h => hFc q h) hFc (fun r9 u9 t H1 locs ht hvm hw hB hz1 hk1 hS => ?_)
          obtain ⟨hw1, hw2⟩ := hw
          have hw2 := hw2.symm
          subst hw1 hw2
          obtain ⟨hP1, hK1, hD1⟩ := hB
          rw [ht] at hP1
          obtain ⟨hP, hD⟩ := jM_M0 hP hD hk1 hFc hP1 hD1
          clear hPc hDc hKc hFc hz1 hk1 hP1 hK1 hD1 ht hvm
          generalize H1 = H at hP hS ⊢
          refine lv_iadd hx hb dX7_zero_88 ?_
          refine lv_istore (lv' := [(5, .int ((f_X7_hl (sMW_spent u 10)) + (f_X7_pair (sMW_spent u 10) (a1 / (2 : Int32))))), (4, .int (bI (if (a1 - a1 / (2 : Int32) * (2 : Int32)) = (1 : Int32) then true else false : Bool))), (0, .ref mO), (1, .int a1), (2, .int a2), (3, .int (a1 / (2 : Int32)))]) hx hb dX7_zero_89 hl (by decide) rfl (fun ls hl => ?_)
          refine lv_aload_n hx hb dX7_zero_91 rfl (lv_at hl 2 rfl) ?_
          refine lv_iload hx hb dX7_zero_92 (lv_at hl 0 rfl) ?_
          refine lv_ldc (v := 65535) hx hb hown (hts _ qX7_zero_2) dX7_zero_94 ?_
          refine jn_b (D := (dC, dI)) (cl := vwCl) (ws := (wM cI mO memA dskA rgA inA outA (sMW_spent u 10))) (A := A) (H0 := s.heap) (nL := 6) 104 (if ((f_X7_hl (sMW_spent u 10)) + (f_X7_pair (sMW_spent u 10) (a1 / (2 : Int32)))) ≤ (65535 : Int32) then false else true : Bool) [(0, .ref mO), (1, .int a1), (2, .int a2), (3, .int (a1 / (2 : Int32))), (4, .int (bI (if (a1 - a1 / (2 : Int32) * (2 : Int32)) = (1 : Int32) then true else false : Bool))), (5, .int ((f_X7_hl (sMW_spent u 10)) + (f_X7_pair (sMW_spent u 10) (a1 / (2 : Int32)))))] [.ref mO] (fun H locs ls hP hS hl => ?_) (fun hJ5 => ?_)
          · skip
            refine va_put (D := (dC, dI)) (ci := 7) (v := .int (bI (if ((f_X7_hl (sMW_spent u 10)) + (f_X7_pair (sMW_spent u 10) (a1 / (2 : Int32)))) ≤ (65535 : Int32) then false else true : Bool))) (ty := .boolean) (C := RX7) (T := TX7) (N := 30) hx hb hts iX7_zero_X7 tyX7 tyX7_ok nmX7 hown hK hP hD hS 0 rfl rfl 8 (by decide) (hts _ qX7_zero_3) (fun _ h9 => h9) rfl (by decide +kernel) (bI_nar (if ((f_X7_hl (sMW_spent u 10)) + (f_X7_pair (sMW_spent u 10) (a1 / (2 : Int32)))) ≤ (65535 : Int32) then false else true : Bool)) (bI_fit (if ((f_X7_hl (sMW_spent u 10)) + (f_X7_pair (sMW_spent u 10) (a1 / (2 : Int32)))) ≤ (65535 : Int32) then false else true : Bool)) (Nat.le_of_ble_eq_true rfl) dX7_zero_104 (fun H locs hP hD hS => ?_)
            obtain ⟨hP, hD⟩ := pM_c hP hD
            refine lv_aload_n hx hb dX7_zero_107 rfl (lv_at hl 0 rfl) ?_
            refine lv_iconst (v := 2) hx hb dX7_zero_108 (by decide) ?_
            refine lv_iload hx hb dX7_zero_109 (lv_at hl 5 rfl) ?_
            obtain ⟨hPc, hDc, hFc⟩ := xM_M hP hD hS hA
            have hKc := hK.sub (tys' := [(cI, .int)]) [0] rfl
            refine va_callv (va_runV (As := [.int 2, .int ((f_X7_hl (sMW_spent u 10)) + (f_X7_pair (sMW_spent u 10) (a1 / (2 : Int32))))]) (rest := []) ⟨hx, hb, hml, hown, hts⟩ (k_X7_setPair l dC dI cI mO memA dskA rgA inA outA H.size (sMW_c (sMW_spent u 10) (if ((f_X7_hl (sMW_spent u 10)) + (f_X7_pair (sMW_spent u 10) (a1 / (2 : Int32)))) ≤ (65535 : Int32) then false else true : Bool)) 2 ((f_X7_hl (sMW_spent u 10)) + (f_X7_pair (sMW_spent u 10) (a1 / (2 : Int32)))) (ix_lit (by decide))) (cwV 2 hts gX7_zero_X7_setPair rfl rfl rfl (by decide +kernel) ⟨Nat.le_of_ble_eq_true rfl, Nat.le_of_ble_eq_true rfl⟩) ⟨fun a U g mk q => by obtain ⟨q0, q1, qP, qK, qD⟩ := q; exact ⟨q0, q1, qP, va_K.moved (u := U) (U := U.calling g mk a) (Vm.Alike.refl U.vm) qK, qD⟩, va_recv hKc hPc (ci := 7) (q0 := 0) rfl rfl, fun U hU hW => ⟨rfl, by rw [hU], by rw [hU]; exact hPc, va_K.moved hW.alike hKc, hDc.weaken (fun _ _ _ _ => trivial)⟩⟩ rfl rfl hl.1 rfl (lv_room (Nat.le_of_ble_eq_true rfl)) dX7_zero_111 ⟨Nat.le_of_ble_eq_true rfl, Nat.le_of_ble_eq_true rfl⟩) hS (fun q _ h => hFc q h) hFc (fun u9 t H1 locs ht hvm hw hB hz1 hk1 hS => ?_)
            subst hw
            obtain ⟨hP1, hK1, hD1⟩ := hB
            rw [ht] at hP1
            obtain ⟨hP, hD⟩ := jM_M hP hD hk1 hFc hP1 hD1
            clear hPc hDc hKc hFc hz1 hk1 hP1 hK1 hD1 ht hvm
            generalize H1 = H at hP hS ⊢
            refine lv_goto (tgt := 311) hx hb dX7_zero_114 (by decide) ?_
            exact W.vret hx hb hr (fun t ht hW => ⟨⟨(f_X7_setPair (sMW_c (sMW_spent u 10) (if ((f_X7_hl (sMW_spent u 10)) + (f_X7_pair (sMW_spent u 10) (a1 / (2 : Int32)))) ≤ (65535 : Int32) then false else true : Bool)) 2 ((f_X7_hl (sMW_spent u 10)) + (f_X7_pair (sMW_spent u 10) (a1 / (2 : Int32))))), rfl, (by simp only [f_X7_zero, if_neg c2, if_pos c3, if_neg c4]), by rw [ht]; exact hP, va_K.moved hW.alike hK, hD⟩, hS.F ht⟩) hS.2.2 dX7_zero_311
          · skip
            refine lv_icmp_le (tgt := 103) hx hb dX7_zero_96 (by decide) (fun c6 => ?_) (fun c6 => ?_)
            · skip
              refine lv_iconst (v := 0) hx hb dX7_zero_103 (by decide) ?_
              exact hJ5 false _ _ _ (by simp only [if_pos c6]) hP hS (lv_sub hl [2, 3, 4, 5, 1, 0] rfl)
            · skip
              refine lv_iconst (v := 1) hx hb dX7_zero_99 (by decide) ?_
              refine lv_goto (tgt := 104) hx hb dX7_zero_100 (by decide) ?_
              exact hJ5 true _ _ _ (by simp only [if_neg c6]) hP hS (lv_sub hl [2, 3, 4, 5, 1, 0] rfl)
      · skip
        by_cases c7 : a2 = 2
        · refine tb_in (k := 2) (off := 110) (tgt := 129) hx hb dX7_zero_19 c7 (by decide) (by decide) (by decide) (by decide) ?_
          refine lv_aload_n hx hb dX7_zero_129 rfl (lv_at hl 1 rfl) ?_
          refine lv_iload_n hx hb dX7_zero_130 rfl (lv_at hl 2 rfl) ?_
          obtain ⟨hPc, hDc, hFc⟩ := xM_M hP hD hS hA
          have hKc := hK.sub (tys' := [(cI, .int)]) [0] rfl
          refine va_callv (va_runV (As := [.int a1]) (rest := []) ⟨hx, hb, hml, hown, hts⟩ (k_X7_byAddress l dC dI cI mO memA dskA rgA inA outA H.size u a1 h1) (cwV 1 hts gX7_zero_X7_byAddress rfl rfl rfl (by decide +kernel) ⟨Nat.le_of_ble_eq_true rfl, Nat.le_of_ble_eq_true rfl⟩) ⟨fun a U g mk q => by obtain ⟨q0, q1, qP, qK, qD⟩ := q; exact ⟨q0, q1, qP, va_K.moved (u := U) (U := U.calling g mk a) (Vm.Alike.refl U.vm) qK, qD⟩, va_recv hKc hPc (ci := 7) (q0 := 0) rfl rfl, fun U hU hW => ⟨rfl, by rw [hU], by rw [hU]; exact hPc, va_K.moved hW.alike hKc, hDc.weaken (fun _ _ _ _ => trivial)⟩⟩ rfl rfl hl.1 rfl (lv_room (Nat.le_of_ble_eq_true rfl)) dX7_zero_131 ⟨Nat.le_of_ble_eq_true rfl, Nat.le_of_ble_eq_true rfl⟩) hS (fun q _ h => hFc q h) hFc (fun u9 t H1 locs ht hvm hw hB hz1 hk1 hS => ?_)
          subst hw
          obtain ⟨hP1, hK1, hD1⟩ := hB
          rw [ht] at hP1
          obtain ⟨hP, hD⟩ := jM_M hP hD hk1 hFc hP1 hD1
          clear hPc hDc hKc hFc hz1 hk1 hP1 hK1 hD1 ht hvm
          generalize H1 = H at hP hS ⊢
          refine lv_goto (tgt := 311) hx hb dX7_zero_134 (by decide) ?_
          exact W.vret hx hb hr (fun t ht hW => ⟨⟨(f_X7_byAddress u a1), rfl, (by simp only [f_X7_zero, if_neg c2, if_neg c3, if_pos c7]), by rw [ht]; exact hP, va_K.moved hW.alike hK, hD⟩, hS.F ht⟩) hS.2.2 dX7_zero_311
        · skip
          by_cases c8 : a2 = 3
          · refine tb_in (k := 3) (off := 118) (tgt := 137) hx hb dX7_zero_19 c8 (by decide) (by decide) (by decide) (by decide) ?_
            refine lv_aload_n hx hb dX7_zero_137 rfl (lv_at hl 1 rfl) ?_
            refine lv_iconst (v := 5) hx hb dX7_zero_138 (by decide) ?_
            refine va_put (D := (dC, dI)) (ci := 7) (v := .int 5) (ty := .int) (C := RX7) (T := TX7) (N := 30) hx hb hts iX7_zero_X7 tyX7 tyX7_ok nmX7 hown hK hP hD hS 0 rfl rfl 16 (by decide) (hts _ qX7_zero_0) (fun _ h9 => h9) rfl (by decide +kernel) rfl rfl (Nat.le_of_ble_eq_true rfl) dX7_zero_139 (fun H locs hP hD hS => ?_)
            obtain ⟨hP, hD⟩ := pM_spent hP hD
            refine lv_aload_n hx hb dX7_zero_142 rfl (lv_at hl 1 rfl) ?_
            refine lv_iload_n hx hb dX7_zero_143 rfl (lv_at hl 4 rfl) ?_
            refine lv_iload hx hb dX7_zero_144 (lv_at hl 0 rfl) ?_
            refine jn_i (D := (dC, dI)) (cl := vwCl) (ws := (wM cI mO memA dskA rgA inA outA (sMW_spent u 5))) (A := A) (H0 := s.heap) (nL := 6) 166 (if (bI (if (a1 - a1 / (2 : Int32) * (2 : Int32)) = (1 : Int32) then true else false : Bool)) = (0 : Int32) then ((f_X7_pair (sMW_spent u 5) (a1 / (2 : Int32))) + (1 : Int32)) else ((f_X7_pair (sMW_spent u 5) (a1 / (2 : Int32))) - (1 : Int32)) : Int32) [(0, .ref mO), (1, .int a1), (2, .int a2), (3, .int (a1 / (2 : Int32))), (4, .int (bI (if (a1 - a1 / (2 : Int32) * (2 : Int32)) = (1 : Int32) then true else false : Bool)))] [.int (a1 / (2 : Int32)), .ref mO] (fun H locs ls hP hS hl => ?_) (fun hJ9 => ?_)
            · skip
              obtain ⟨hPc, hDc, hFc⟩ := xM_M hP hD hS hA
              have hKc := hK.sub (tys' := [(cI, .int)]) [0] rfl
              refine va_callv (va_runV (As := [.int (a1 / (2 : Int32)), .int (if (bI (if (a1 - a1 / (2 : Int32) * (2 : Int32)) = (1 : Int32) then true else false : Bool)) = (0 : Int32) then ((f_X7_pair (sMW_spent u 5) (a1 / (2 : Int32))) + (1 : Int32)) else ((f_X7_pair (sMW_spent u 5) (a1 / (2 : Int32))) - (1 : Int32)) : Int32)]) (rest := []) ⟨hx, hb, hml, hown, hts⟩ (k_X7_setPair l dC dI cI mO memA dskA rgA inA outA H.size (sMW_spent u 5) (a1 / (2 : Int32)) (if (bI (if (a1 - a1 / (2 : Int32) * (2 : Int32)) = (1 : Int32) then true else false : Bool)) = (0 : Int32) then ((f_X7_pair (sMW_spent u 5) (a1 / (2 : Int32))) + (1 : Int32)) else ((f_X7_pair (sMW_spent u 5) (a1 / (2 : Int32))) - (1 : Int32)) : Int32) (in_div2 h1)) (cwV 2 hts gX7_zero_X7_setPair rfl rfl rfl (by decide +kernel) ⟨Nat.le_of_ble_eq_true rfl, Nat.le_of_ble_eq_true rfl⟩) ⟨fun a U g mk q => by obtain ⟨q0, q1, qP, qK, qD⟩ := q; exact ⟨q0, q1, qP, va_K.moved (u := U) (U := U.calling g mk a) (Vm.Alike.refl U.vm) qK, qD⟩, va_recv hKc hPc (ci := 7) (q0 := 0) rfl rfl, fun U hU hW => ⟨rfl, by rw [hU], by rw [hU]; exact hPc, va_K.moved hW.alike hKc, hDc.weaken (fun _ _ _ _ => trivial)⟩⟩ rfl rfl hl.1 rfl (lv_room (Nat.le_of_ble_eq_true rfl)) dX7_zero_166 ⟨Nat.le_of_ble_eq_true rfl, Nat.le_of_ble_eq_true rfl⟩) hS (fun q _ h => hFc q h) hFc (fun u9 t H1 locs ht hvm hw hB hz1 hk1 hS => ?_)
              subst hw
              obtain ⟨hP1, hK1, hD1⟩ := hB
              rw [ht] at hP1
              obtain ⟨hP, hD⟩ := jM_M hP hD hk1 hFc hP1 hD1
              clear hPc hDc hKc hFc hz1 hk1 hP1 hK1 hD1 ht hvm
              generalize H1 = H at hP hS ⊢
              refine lv_goto (tgt := 311) hx hb dX7_zero_169 (by decide) ?_
              exact W.vret hx hb hr (fun t ht hW => ⟨⟨(f_X7_setPair (sMW_spent u 5) (a1 / (2 : Int32)) (if (bI (if (a1 - a1 / (2 : Int32) * (2 : Int32)) = (1 : Int32) then true else false : Bool)) = (0 : Int32) then ((f_X7_pair (sMW_spent u 5) (a1 / (2 : Int32))) + (1 : Int32)) else ((f_X7_pair (sMW_spent u 5) (a1 / (2 : Int32))) - (1 : Int32)) : Int32)), rfl, (by simp only [f_X7_zero, if_neg c2, if_neg c3, if_neg c7, if_pos c8]), by rw [ht]; exact hP, va_K.moved hW.alike hK, hD⟩, hS.F ht⟩) hS.2.2 dX7_zero_311
            · skip
              refine lv_if_eq (tgt := 159) hx hb dX7_zero_146 (by decide) (fun c10 => ?_) (fun c10 => ?_)
              · skip
                refine lv_aload_n hx hb dX7_zero_159 rfl (lv_at hl 1 rfl) ?_
                refine lv_iload_n hx hb dX7_zero_160 rfl (lv_at hl 4 rfl) ?_
                obtain ⟨hPc, hDc, hFc⟩ := xM_M hP hD hS hA
                have hKc := hK.sub (tys' := [(cI, .int)]) [0] rfl
                refine va_calli (va_runV (As := [.int (a1 / (2 : Int32))]) (rest := [.int (a1 / (2 : Int32)), .ref mO]) ⟨hx, hb, hml, hown, hts⟩ (k_X7_pair l dC dI cI mO memA dskA rgA inA outA H.size (sMW_spent u 5) (a1 / (2 : Int32)) (in_div2 h1)) (cwV 1 hts gX7_zero_X7_pair rfl rfl rfl (by decide +kernel) ⟨Nat.le_of_ble_eq_true rfl, Nat.le_of_ble_eq_true rfl⟩) ⟨fun a U g mk q => by obtain ⟨q0, q1, qP, qK, qD⟩ := q; exact ⟨q0, q1, qP, va_K.moved (u := U) (U := U.calling g mk a) (Vm.Alike.refl U.vm) qK, qD⟩, va_recv hKc hPc (ci := 7) (q0 := 0) rfl rfl, fun U hU hW => ⟨rfl, by rw [hU], by rw [hU]; exact hPc, va_K.moved hW.alike hKc, hDc.weaken (fun _ _ _ _ => trivial)⟩⟩ rfl rfl hl.1 rfl (lv_room (Nat.le_of_ble_eq_true rfl)) dX7_zero_161 ⟨Nat.le_of_ble_eq_true rfl, Nat.le_of_ble_eq_true rfl⟩) hS (fun q _ h => hFc q h) hFc (fun r9 u9 t H1 locs ht hvm hw hB hz1 hk1 hS => ?_)
                obtain ⟨hw1, hw2⟩ := hw
                have hw2 := hw2.symm
                subst hw1 hw2
                obtain ⟨hP1, hK1, hD1⟩ := hB
                rw [ht] at hP1
                obtain ⟨hP, hD⟩ := jM_M0 hP hD hk1 hFc hP1 hD1
                clear hPc hDc hKc hFc hz1 hk1 hP1 hK1 hD1 ht hvm
                generalize H1 = H at hP hS ⊢
                refine lv_iconst (v := 1) hx hb dX7_zero_164 (by decide) ?_
                refine lv_iadd hx hb dX7_zero_165 ?_
                exact hJ9 ((f_X7_pair (sMW_spent u 5) (a1 / (2 : Int32))) + (1 : Int32)) _ _ _ (by simp only [if_pos c10]) hP hS (lv_sub hl [1, 2, 3, 4, 0] rfl)
              · skip
                refine lv_aload_n hx hb dX7_zero_149 rfl (lv_at hl 1 rfl) ?_
                refine lv_iload_n hx hb dX7_zero_150 rfl (lv_at hl 4 rfl) ?_
                obtain ⟨hPc, hDc, hFc⟩ := xM_M hP hD hS hA
                have hKc := hK.sub (tys' := [(cI, .int)]) [0] rfl
                refine va_calli (va_runV (As := [.int (a1 / (2 : Int32))]) (rest := [.int (a1 / (2 : Int32)), .ref mO]) ⟨hx, hb, hml, hown, hts⟩ (k_X7_pair l dC dI cI mO memA dskA rgA inA outA H.size (sMW_spent u 5) (a1 / (2 : Int32)) (in_div2 h1)) (cwV 1 hts gX7_zero_X7_pair rfl rfl rfl (by decide +kernel) ⟨Nat.le_of_ble_eq_true rfl, Nat.le_of_ble_eq_true rfl⟩) ⟨fun a U g mk q => by obtain ⟨q0, q1, qP, qK, qD⟩ := q; exact ⟨q0, q1, qP, va_K.moved (u := U) (U := U.calling g mk a) (Vm.Alike.refl U.vm) qK, qD⟩, va_recv hKc hPc (ci := 7) (q0 := 0) rfl rfl, fun U hU hW => ⟨rfl, by rw [hU], by rw [hU]; exact hPc, va_K.moved hW.alike hKc, hDc.weaken (fun _ _ _ _ => trivial)⟩⟩ rfl rfl hl.1 rfl (lv_room (Nat.le_of_ble_eq_true rfl)) dX7_zero_151 ⟨Nat.le_of_ble_eq_true rfl, Nat.le_of_ble_eq_true rfl⟩) hS (fun q _ h => hFc q h) hFc (fun r9 u9 t H1 locs ht hvm hw hB hz1 hk1 hS => ?_)
                obtain ⟨hw1, hw2⟩ := hw
                have hw2 := hw2.symm
                subst hw1 hw2
                obtain ⟨hP1, hK1, hD1⟩ := hB
                rw [ht] at hP1
                obtain ⟨hP, hD⟩ := jM_M0 hP hD hk1 hFc hP1 hD1
                clear hPc hDc hKc hFc hz1 hk1 hP1 hK1 hD1 ht hvm
                generalize H1 = H at hP hS ⊢
                refine lv_iconst (v := 1) hx hb dX7_zero_154 (by decide) ?_
                refine lv_isub hx hb dX7_zero_155 ?_
                refine lv_goto (tgt := 166) hx hb dX7_zero_156 (by decide) ?_
                exact hJ9 ((f_X7_pair (sMW_spent u 5) (a1 / (2 : Int32))) - (1 : Int32)) _ _ _ (by simp only [if_neg c10]) hP hS (lv_sub hl [1, 2, 3, 4, 0] rfl)
          · skip
            by_cases c11 : a2 = 4
            · refine tb_in (k := 4) (off := 153) (tgt := 172) hx hb dX7_zero_19 c11 (by decide) (by decide) (by decide) (by decide) ?_
              refine lv_aload_n hx hb dX7_zero_172 rfl (lv_at hl 1 rfl) ?_
              refine lv_iload_n hx hb dX7_zero_173 rfl (lv_at hl 2 rfl) ?_
              refine lv_bipush (v := 6) hx hb dX7_zero_174 (by decide) ?_
              refine jn_i (D := (dC, dI)) (cl := vwCl) (ws := (wM cI mO memA dskA rgA inA outA u)) (A := A) (H0 := s.heap) (nL := 6) 185 (if a1 = (6 : Int32) then 10 else 5 : Int32) [(0, .ref mO), (1, .int a1), (2, .int a2), (3, .int (a1 / (2 : Int32))), (4, .int (bI (if (a1 - a1 / (2 : Int32) * (2 : Int32)) = (1 : Int32) then true else false : Bool)))] [.ref mO] (fun H locs ls hP hS hl => ?_) (fun hJ12 => ?_)
              · skip
                refine va_put (D := (dC, dI)) (ci := 7) (v := .int (if a1 = (6 : Int32) then 10 else 5 : Int32)) (ty := .int) (C := RX7) (T := TX7) (N := 30) hx hb hts iX7_zero_X7 tyX7 tyX7_ok nmX7 hown hK hP hD hS 0 rfl rfl 16 (by decide) (hts _ qX7_zero_0) (fun _ h9 => h9) rfl (by decide +kernel) rfl rfl (Nat.le_of_ble_eq_true rfl) dX7_zero_185 (fun H locs hP hD hS => ?_)
                obtain ⟨hP, hD⟩ := pM_spent hP hD
                refine lv_iload_n hx hb dX7_zero_188 rfl (lv_at hl 2 rfl) ?_
                refine lv_iconst (v := 4) hx hb dX7_zero_189 (by decide) ?_
                refine jn_i (D := (dC, dI)) (cl := vwCl) (ws := (wM cI mO memA dskA rgA inA outA (sMW_spent u (if a1 = (6 : Int32) then 10 else 5 : Int32)))) (A := A) (H0 := s.heap) (nL := 6) 210 (if a2 = (4 : Int32) then ((f_X7_reg (sMW_spent u (if a1 = (6 : Int32) then 10 else 5 : Int32)) a1) + (1 : Int32)) else ((f_X7_reg (sMW_spent u (if a1 = (6 : Int32) then 10 else 5 : Int32)) a1) - (1 : Int32)) : Int32) [(0, .ref mO), (1, .int a1), (2, .int a2), (3, .int (a1 / (2 : Int32))), (4, .int (bI (if (a1 - a1 / (2 : Int32) * (2 : Int32)) = (1 : Int32) then true else false : Bool)))] [] (fun H locs ls hP hS hl => ?_) (fun hJ13 => ?_)
                · skip
                  refine lv_sipush (v := 255) hx hb dX7_zero_210 (by decide) ?_
                  refine lv_iand hx hb dX7_zero_213 ?_
                  refine lv_topi (fun y14 ey14 => ?_)
                  refine lv_istore (lv' := [(5, .int y14), (0, .ref mO), (1, .int a1), (2, .int a2), (3, .int (a1 / (2 : Int32))), (4, .int (bI (if (a1 - a1 / (2 : Int32) * (2 : Int32)) = (1 : Int32) then true else false : Bool)))]) hx hb dX7_zero_214 hl (by decide) rfl (fun ls hl => ?_)
                  refine lv_aload_n hx hb dX7_zero_216 rfl (lv_at hl 1 rfl) ?_
                  refine lv_iload_n hx hb dX7_zero_217 rfl (lv_at hl 3 rfl) ?_
                  refine lv_iconst (v := 4) hx hb dX7_zero_218 (by decide) ?_
                  refine jn_b (D := (dC, dI)) (cl := vwCl) (ws := (wM cI mO memA dskA rgA inA outA (sMW_spent u (if a1 = (6 : Int32) then 10 else 5 : Int32)))) (A := A) (H0 := s.heap) (nL := 6) 253 (if a2 = (4 : Int32) then (if (y14 &&& (15 : Int32)) = (0 : Int32) then true else false : Bool) else (if (y14 &&& (15 : Int32)) = (15 : Int32) then false else true : Bool) : Bool) [(0, .ref mO), (1, .int a1), (2, .int a2), (3, .int (a1 / (2 : Int32))), (4, .int (bI (if (a1 - a1 / (2 : Int32) * (2 : Int32)) = (1 : Int32) then true else false : Bool))), (5, .int y14)] [.ref mO] (fun H locs ls hP hS hl => ?_) (fun hJ15 => ?_)
                  · skip
                    refine va_put (D := (dC, dI)) (ci := 7) (v := .int (bI (if a2 = (4 : Int32) then (if (y14 &&& (15 : Int32)) = (0 : Int32) then true else false : Bool) else (if (y14 &&& (15 : Int32)) = (15 : Int32) then false else true : Bool) : Bool))) (ty := .boolean) (C := RX7) (T := TX7) (N := 30) hx hb hts iX7_zero_X7 tyX7 tyX7_ok nmX7 hown hK hP hD hS 0 rfl rfl 6 (by decide) (hts _ qX7_zero_1) (fun _ h9 => h9) rfl (by decide +kernel) (bI_nar (if a2 = (4 : Int32) then (if (y14 &&& (15 : Int32)) = (0 : Int32) then true else false : Bool) else (if (y14 &&& (15 : Int32)) = (15 : Int32) then false else true : Bool) : Bool)) (bI_fit (if a2 = (4 : Int32) then (if (y14 &&& (15 : Int32)) = (0 : Int32) then true else false : Bool) else (if (y14 &&& (15 : Int32)) = (15 : Int32) then false else true : Bool) : Bool)) (Nat.le_of_ble_eq_true rfl) dX7_zero_253 (fun H locs hP hD hS => ?_)
                    obtain ⟨hP, hD⟩ := pM_h hP hD
                    refine lv_aload_n hx hb dX7_zero_256 rfl (lv_at hl 0 rfl) ?_
                    refine lv_iload_n hx hb dX7_zero_257 rfl (lv_at hl 1 rfl) ?_
                    refine lv_iload hx hb dX7_zero_258 (lv_at hl 5 rfl) ?_
                    obtain ⟨hPc, hDc, hFc⟩ := xM_M hP hD hS hA
                    have hKc := hK.sub (tys' := [(cI, .int)]) [0] rfl
                    refine va_callv (va_runV (As := [.int a1, .int y14]) (rest := []) ⟨hx, hb, hml, hown, hts⟩ (k_X7_setReg l dC dI cI mO memA dskA rgA inA outA H.size (sMW_h (sMW_spent u (if a1 = (6 : Int32) then 10 else 5 : Int32)) (if a2 = (4 : Int32) then (if (y14 &&& (15 : Int32)) = (0 : Int32) then true else false : Bool) else (if (y14 &&& (15 : Int32)) = (15 : Int32) then false else true : Bool) : Bool)) a1 y14 h1) (cwV 2 hts gX7_zero_X7_setReg rfl rfl rfl (by decide +kernel) ⟨Nat.le_of_ble_eq_true rfl, Nat.le_of_ble_eq_true rfl⟩) ⟨fun a U g mk q => by obtain ⟨q0, q1, qP, qK, qD⟩ := q; exact ⟨q0, q1, qP, va_K.moved (u := U) (U := U.calling g mk a) (Vm.Alike.refl U.vm) qK, qD⟩, va_recv hKc hPc (ci := 7) (q0 := 0) rfl rfl, fun U hU hW => ⟨rfl, by rw [hU], by rw [hU]; exact hPc, va_K.moved hW.alike hKc, hDc.weaken (fun _ _ _ _ => trivial)⟩⟩ rfl rfl hl.1 rfl (lv_room (Nat.le_of_ble_eq_true rfl)) dX7_zero_260 ⟨Nat.le_of_ble_eq_true rfl, Nat.le_of_ble_eq_true rfl⟩) hS (fun q _ h => hFc q h) hFc (fun u9 t H1 locs ht hvm hw hB hz1 hk1 hS => ?_)
                    subst hw
                    obtain ⟨hP1, hK1, hD1⟩ := hB
                    rw [ht] at hP1
                    obtain ⟨hP, hD⟩ := jM_M hP hD hk1 hFc hP1 hD1
                    clear hPc hDc hKc hFc hz1 hk1 hP1 hK1 hD1 ht hvm
                    generalize H1 = H at hP hS ⊢
                    refine lv_aload_n hx hb dX7_zero_263 rfl (lv_at hl 0 rfl) ?_
                    refine lv_iload hx hb dX7_zero_264 (lv_at hl 5 rfl) ?_
                    obtain ⟨hPc, hDc, hFc⟩ := xM_M hP hD hS hA
                    have hKc := hK.sub (tys' := [(cI, .int)]) [0] rfl
                    refine va_callv (va_runV (As := [.int y14]) (rest := []) ⟨hx, hb, hml, hown, hts⟩ (k_X7_logic l dC dI cI mO memA dskA rgA inA outA H.size (f_X7_setReg (sMW_h (sMW_spent u (if a1 = (6 : Int32) then 10 else 5 : Int32)) (if a2 = (4 : Int32) then (if (y14 &&& (15 : Int32)) = (0 : Int32) then true else false : Bool) else (if (y14 &&& (15 : Int32)) = (15 : Int32) then false else true : Bool) : Bool)) a1 y14) y14) (cwV 1 hts gX7_zero_X7_logic rfl rfl rfl (by decide +kernel) ⟨Nat.le_of_ble_eq_true rfl, Nat.le_of_ble_eq_true rfl⟩) ⟨fun a U g mk q => by obtain ⟨q0, q1, qP, qK, qD⟩ := q; exact ⟨q0, q1, qP, va_K.moved (u := U) (U := U.calling g mk a) (Vm.Alike.refl U.vm) qK, qD⟩, va_recv hKc hPc (ci := 7) (q0 := 0) rfl rfl, fun U hU hW => ⟨rfl, by rw [hU], by rw [hU]; exact hPc, va_K.moved hW.alike hKc, hDc.weaken (fun _ _ _ _ => trivial)⟩⟩ rfl rfl hl.1 rfl (lv_room (Nat.le_of_ble_eq_true rfl)) dX7_zero_266 ⟨Nat.le_of_ble_eq_true rfl, Nat.le_of_ble_eq_true rfl⟩) hS (fun q _ h => hFc q h) hFc (fun u9 t H1 locs ht hvm hw hB hz1 hk1 hS => ?_)
                    subst hw
                    obtain ⟨hP1, hK1, hD1⟩ := hB
                    rw [ht] at hP1
                    obtain ⟨hP, hD⟩ := jM_M hP hD hk1 hFc hP1 hD1
                    clear hPc hDc hKc hFc hz1 hk1 hP1 hK1 hD1 ht hvm
                    generalize H1 = H at hP hS ⊢
                    refine lv_goto (tgt := 311) hx hb dX7_zero_269 (by decide) ?_
                    exact W.vret hx hb hr (fun t ht hW => ⟨⟨(f_X7_logic (f_X7_setReg (sMW_h (sMW_spent u (if a1 = (6 : Int32) then 10 else 5 : Int32)) (if a2 = (4 : Int32) then (if (y14 &&& (15 : Int32)) = (0 : Int32) then true else false : Bool) else (if (y14 &&& (15 : Int32)) = (15 : Int32) then false else true : Bool) : Bool)) a1 y14) y14), rfl, (by subst ey14; simp only [f_X7_zero, if_neg c2, if_neg c3, if_neg c7, if_neg c8, if_pos c11]), by rw [ht]; exact hP, va_K.moved hW.alike hK, hD⟩, hS.F ht⟩) hS.2.2 dX7_zero_311
                  · skip
                    refine lv_icmp_ne (tgt := 238) hx hb dX7_zero_219 (by decide) (fun c16 => ?_) (fun c16 => ?_)
                    · skip
                      refine lv_iload hx hb dX7_zero_238 (lv_at hl 0 rfl) ?_
                      refine lv_bipush (v := 15) hx hb dX7_zero_240 (by decide) ?_
                      refine lv_iand hx hb dX7_zero_242 ?_
                      refine lv_bipush (v := 15) hx hb dX7_zero_243 (by decide) ?_
                      refine jn_b (D := (dC, dI)) (cl := vwCl) (ws := (wM cI mO memA dskA rgA inA outA (sMW_spent u (if a1 = (6 : Int32) then 10 else 5 : Int32)))) (A := A) (H0 := s.heap) (nL := 6) 253 (if (y14 &&& (15 : Int32)) = (15 : Int32) then false else true : Bool) [(0, .ref mO), (1, .int a1), (2, .int a2), (3, .int (a1 / (2 : Int32))), (4, .int (bI (if (a1 - a1 / (2 : Int32) * (2 : Int32)) = (1 : Int32) then true else false : Bool))), (5, .int y14)] [.ref mO] (fun H locs ls hP hS hl => ?_) (fun hJ17 => ?_)
                      · skip
                        exact hJ15 (if (y14 &&& (15 : Int32)) = (15 : Int32) then false else true : Bool) _ _ _ (by simp only [if_neg c16]) hP hS (lv_sub hl [0, 1, 2, 3, 4, 5] rfl)
                      · skip
                        refine lv_icmp_eq (tgt := 252) hx hb dX7_zero_245 (by decide) (fun c18 => ?_) (fun c18 => ?_)
                        · skip
                          refine lv_iconst (v := 0) hx hb dX7_zero_252 (by decide) ?_
                          exact hJ17 false _ _ _ (by simp only [if_pos c18]) hP hS (lv_sub hl [1, 2, 3, 4, 5, 0] rfl)
                        · skip
                          refine lv_iconst (v := 1) hx hb dX7_zero_248 (by decide) ?_
                          refine lv_goto (tgt := 253) hx hb dX7_zero_249 (by decide) ?_
                          exact hJ17 true _ _ _ (by simp only [if_neg c18]) hP hS (lv_sub hl [1, 2, 3, 4, 5, 0] rfl)
                    · skip
                      refine lv_iload hx hb dX7_zero_222 (lv_at hl 0 rfl) ?_
                      refine lv_bipush (v := 15) hx hb dX7_zero_224 (by decide) ?_
                      refine lv_iand hx hb dX7_zero_226 ?_
                      refine jn_b (D := (dC, dI)) (cl := vwCl) (ws := (wM cI mO memA dskA rgA inA outA (sMW_spent u (if a1 = (6 : Int32) then 10 else 5 : Int32)))) (A := A) (H0 := s.heap) (nL := 6) 253 (if (y14 &&& (15 : Int32)) = (0 : Int32) then true else false : Bool) [(0, .ref mO), (1, .int a1), (2, .int a2), (3, .int (a1 / (2 : Int32))), (4, .int (bI (if (a1 - a1 / (2 : Int32) * (2 : Int32)) = (1 : Int32) then true else false : Bool))), (5, .int y14)] [.ref mO] (fun H locs ls hP hS hl => ?_) (fun hJ19 => ?_)
                      · skip
                        exact hJ15 (if (y14 &&& (15 : Int32)) = (0 : Int32) then true else false : Bool) _ _ _ (by simp only [if_pos c16]) hP hS (lv_sub hl [0, 1, 2, 3, 4, 5] rfl)
                      · skip
                        refine lv_if_ne (tgt := 234) hx hb dX7_zero_227 (by decide) (fun c20 => ?_) (fun c20 => ?_)
                        · skip
                          refine lv_iconst (v := 0) hx hb dX7_zero_234 (by decide) ?_
                          refine lv_goto (tgt := 253) hx hb dX7_zero_235 (by decide) ?_
                          exact hJ19 false _ _ _ (by simp only [if_neg c20]) hP hS (lv_sub hl [1, 2, 3, 4, 5, 0] rfl)
                        · skip
                          refine lv_iconst (v := 1) hx hb dX7_zero_230 (by decide) ?_
                          refine lv_goto (tgt := 253) hx hb dX7_zero_231 (by decide) ?_
                          exact hJ19 true _ _ _ (by simp only [if_pos c20]) hP hS (lv_sub hl [1, 2, 3, 4, 5, 0] rfl)
                · skip
                  refine lv_icmp_ne (tgt := 203) hx hb dX7_zero_190 (by decide) (fun c21 => ?_) (fun c21 => ?_)
                  · skip
                    refine lv_aload_n hx hb dX7_zero_203 rfl (lv_at hl 0 rfl) ?_
                    refine lv_iload_n hx hb dX7_zero_204 rfl (lv_at hl 1 rfl) ?_
                    obtain ⟨hPc, hDc, hFc⟩ := xM_M hP hD hS hA
                    have hKc := hK.sub (tys' := [(cI, .int)]) [0] rfl
                    refine va_calli (va_runV (As := [.int a1]) (rest := []) ⟨hx, hb, hml, hown, hts⟩ (k_X7_reg l dC dI cI mO memA dskA rgA inA outA H.size (sMW_spent u (if a1 = (6 : Int32) then 10 else 5 : Int32)) a1 h1) (cwV 1 hts gX7_zero_X7_reg rfl rfl rfl (by decide +kernel) ⟨Nat.le_of_ble_eq_true rfl, Nat.le_of_ble_eq_true rfl⟩) ⟨fun a U g mk q => by obtain ⟨q0, q1, qP, qK, qD⟩ := q; exact ⟨q0, q1, qP, va_K.moved (u := U) (U := U.calling g mk a) (Vm.Alike.refl U.vm) qK, qD⟩, va_recv hKc hPc (ci := 7) (q0 := 0) rfl rfl, fun U hU hW => ⟨rfl, by rw [hU], by rw [hU]; exact hPc, va_K.moved hW.alike hKc, hDc.weaken (fun _ _ _ _ => trivial)⟩⟩ rfl rfl hl.1 rfl (lv_room (Nat.le_of_ble_eq_true rfl)) dX7_zero_205 ⟨Nat.le_of_ble_eq_true rfl, Nat.le_of_ble_eq_true rfl⟩) hS (fun q _ h => hFc q h) hFc (fun r9 u9 t H1 locs ht hvm hw hB hz1 hk1 hS => ?_)
                    obtain ⟨hw1, hw2⟩ := hw
                    have hw2 := hw2.symm
                    subst hw1 hw2
                    obtain ⟨hP1, hK1, hD1⟩ := hB
                    rw [ht] at hP1
                    obtain ⟨hP, hD⟩ := jM_M0 hP hD hk1 hFc hP1 hD1
                    clear hPc hDc hKc hFc hz1 hk1 hP1 hK1 hD1 ht hvm
                    generalize H1 = H at hP hS ⊢
                    refine lv_iconst (v := 1) hx hb dX7_zero_208 (by decide) ?_
                    refine lv_isub hx hb dX7_zero_209 ?_
                    exact hJ13 ((f_X7_reg (sMW_spent u (if a1 = (6 : Int32) then 10 else 5 : Int32)) a1) - (1 : Int32)) _ _ _ (by simp only [if_neg c21]) hP hS (lv_sub hl [0, 1, 2, 3, 4] rfl)
                  · skip
                    refine lv_aload_n hx hb dX7_zero_193 rfl (lv_at hl 0 rfl) ?_
                    refine lv_iload_n hx hb dX7_zero_194 rfl (lv_at hl 1 rfl) ?_
                    obtain ⟨hPc, hDc, hFc⟩ := xM_M hP hD hS hA
                    have hKc := hK.sub (tys' := [(cI, .int)]) [0] rfl
                    refine va_calli (va_runV (As := [.int a1]) (rest := []) ⟨hx, hb, hml, hown, hts⟩ (k_X7_reg l dC dI cI mO memA dskA rgA inA outA H.size (sMW_spent u (if a1 = (6 : Int32) then 10 else 5 : Int32)) a1 h1) (cwV 1 hts gX7_zero_X7_reg rfl rfl rfl (by decide +kernel) ⟨Nat.le_of_ble_eq_true rfl, Nat.le_of_ble_eq_true rfl⟩) ⟨fun a U g mk q => by obtain ⟨q0, q1, qP, qK, qD⟩ := q; exact ⟨q0, q1, qP, va_K.moved (u := U) (U := U.calling g mk a) (Vm.Alike.refl U.vm) qK, qD⟩, va_recv hKc hPc (ci := 7) (q0 := 0) rfl rfl, fun U hU hW => ⟨rfl, by rw [hU], by rw [hU]; exact hPc, va_K.moved hW.alike hKc, hDc.weaken (fun _ _ _ _ => trivial)⟩⟩ rfl rfl hl.1 rfl (lv_room (Nat.le_of_ble_eq_true rfl)) dX7_zero_195 ⟨Nat.le_of_ble_eq_true rfl, Nat.le_of_ble_eq_true rfl⟩) hS (fun q _ h => hFc q h) hFc (fun r9 u9 t H1 locs ht hvm hw hB hz1 hk1 hS => ?_)
                    obtain ⟨hw1, hw2⟩ := hw
                    have hw2 := hw2.symm
                    subst hw1 hw2
                    obtain ⟨hP1, hK1, hD1⟩ := hB
                    rw [ht] at hP1
                    obtain ⟨hP, hD⟩ := jM_M0 hP hD hk1 hFc hP1 hD1
                    clear hPc hDc hKc hFc hz1 hk1 hP1 hK1 hD1 ht hvm
                    generalize H1 = H at hP hS ⊢
                    refine lv_iconst (v := 1) hx hb dX7_zero_198 (by decide) ?_
                    refine lv_iadd hx hb dX7_zero_199 ?_
                    refine lv_goto (tgt := 210) hx hb dX7_zero_200 (by decide) ?_
                    exact hJ13 ((f_X7_reg (sMW_spent u (if a1 = (6 : Int32) then 10 else 5 : Int32)) a1) + (1 : Int32)) _ _ _ (by simp only [if_pos c21]) hP hS (lv_sub hl [0, 1, 2, 3, 4] rfl)
              · skip
                refine lv_icmp_ne (tgt := 184) hx hb dX7_zero_176 (by decide) (fun c22 => ?_) (fun c22 => ?_)
                · skip
                  refine lv_iconst (v := 5) hx hb dX7_zero_184 (by decide) ?_
                  exact hJ12 5 _ _ _ (by simp only [if_neg c22]) hP hS (lv_sub hl [1, 2, 3, 4, 0] rfl)
                · skip
                  refine lv_bipush (v := 10) hx hb dX7_zero_179 (by decide) ?_
                  refine lv_goto (tgt := 185) hx hb dX7_zero_181 (by decide) ?_
                  exact hJ12 10 _ _ _ (by simp only [if_pos c22]) hP hS (lv_sub hl [1, 2, 3, 4, 0] rfl)
            · skip
              by_cases c23 : a2 = 5
              · refine tb_in (k := 5) (off := 153) (tgt := 172) hx hb dX7_zero_19 c23 (by decide) (by decide) (by decide) (by decide) ?_
                refine lv_aload_n hx hb dX7_zero_172 rfl (lv_at hl 1 rfl) ?_
                refine lv_iload_n hx hb dX7_zero_173 rfl (lv_at hl 2 rfl) ?_
                refine lv_bipush (v := 6) hx hb dX7_zero_174 (by decide) ?_
                refine jn_i (D := (dC, dI)) (cl := vwCl) (ws := (wM cI mO memA dskA rgA inA outA u)) (A := A) (H0 := s.heap) (nL := 6) 185 (if a1 = (6 : Int32) then 10 else 5 : Int32) [(0, .ref mO), (1, .int a1), (2, .int a2), (3, .int (a1 / (2 : Int32))), (4, .int (bI (if (a1 - a1 / (2 : Int32) * (2 : Int32)) = (1 : Int32) then true else false : Bool)))] [.ref mO] (fun H locs ls hP hS hl => ?_) (fun hJ24 => ?_)
                · skip
                  refine va_put (D := (dC, dI)) (ci := 7) (v := .int (if a1 = (6 : Int32) then 10 else 5 : Int32)) (ty := .int) (C := RX7) (T := TX7) (N := 30) hx hb hts iX7_zero_X7 tyX7 tyX7_ok nmX7 hown hK hP hD hS 0 rfl rfl 16 (by decide) (hts _ qX7_zero_0) (fun _ h9 => h9) rfl (by decide +kernel) rfl rfl (Nat.le_of_ble_eq_true rfl) dX7_zero_185 (fun H locs hP hD hS => ?_)
                  obtain ⟨hP, hD⟩ := pM_spent hP hD
                  refine lv_iload_n hx hb dX7_zero_188 rfl (lv_at hl 2 rfl) ?_
                  refine lv_iconst (v := 4) hx hb dX7_zero_189 (by decide) ?_
                  refine jn_i (D := (dC, dI)) (cl := vwCl) (ws := (wM cI mO memA dskA rgA inA outA (sMW_spent u (if a1 = (6 : Int32) then 10 else 5 : Int32)))) (A := A) (H0 := s.heap) (nL := 6) 210 (if a2 = (4 : Int32) then ((f_X7_reg (sMW_spent u (if a1 = (6 : Int32) then 10 else 5 : Int32)) a1) + (1 : Int32)) else ((f_X7_reg (sMW_spent u (if a1 = (6 : Int32) then 10 else 5 : Int32)) a1) - (1 : Int32)) : Int32) [(0, .ref mO), (1, .int a1), (2, .int a2), (3, .int (a1 / (2 : Int32))), (4, .int (bI (if (a1 - a1 / (2 : Int32) * (2 : Int32)) = (1 : Int32) then true else false : Bool)))] [] (fun H locs ls hP hS hl => ?_) (fun hJ25 => ?_)
                  · skip
                    refine lv_sipush (v := 255) hx hb dX7_zero_210 (by decide) ?_
                    refine lv_iand hx hb dX7_zero_213 ?_
                    refine lv_topi (fun y26 ey26 => ?_)
                    refine lv_istore (lv' := [(5, .int y26), (0, .ref mO), (1, .int a1), (2, .int a2), (3, .int (a1 / (2 : Int32))), (4, .int (bI (if (a1 - a1 / (2 : Int32) * (2 : Int32)) = (1 : Int32) then true else false : Bool)))]) hx hb dX7_zero_214 hl (by decide) rfl (fun ls hl => ?_)
                    refine lv_aload_n hx hb dX7_zero_216 rfl (lv_at hl 1 rfl) ?_
                    refine lv_iload_n hx hb dX7_zero_217 rfl (lv_at hl 3 rfl) ?_
                    refine lv_iconst (v := 4) hx hb dX7_zero_218 (by decide) ?_
                    refine jn_b (D := (dC, dI)) (cl := vwCl) (ws := (wM cI mO memA dskA rgA inA outA (sMW_spent u (if a1 = (6 : Int32) then 10 else 5 : Int32)))) (A := A) (H0 := s.heap) (nL := 6) 253 (if a2 = (4 : Int32) then (if (y26 &&& (15 : Int32)) = (0 : Int32) then true else false : Bool) else (if (y26 &&& (15 : Int32)) = (15 : Int32) then false else true : Bool) : Bool) [(0, .ref mO), (1, .int a1), (2, .int a2), (3, .int (a1 / (2 : Int32))), (4, .int (bI (if (a1 - a1 / (2 : Int32) * (2 : Int32)) = (1 : Int32) then true else false : Bool))), (5, .int y26)] [.ref mO] (fun H locs ls hP hS hl => ?_) (fun hJ27 => ?_)
                    · skip
                      refine va_put (D := (dC, dI)) (ci := 7) (v := .int (bI (if a2 = (4 : Int32) then (if (y26 &&& (15 : Int32)) = (0 : Int32) then true else false : Bool) else (if (y26 &&& (15 : Int32)) = (15 : Int32) then false else true : Bool) : Bool))) (ty := .boolean) (C := RX7) (T := TX7) (N := 30) hx hb hts iX7_zero_X7 tyX7 tyX7_ok nmX7 hown hK hP hD hS 0 rfl rfl 6 (by decide) (hts _ qX7_zero_1) (fun _ h9 => h9) rfl (by decide +kernel) (bI_nar (if a2 = (4 : Int32) then (if (y26 &&& (15 : Int32)) = (0 : Int32) then true else false : Bool) else (if (y26 &&& (15 : Int32)) = (15 : Int32) then false else true : Bool) : Bool)) (bI_fit (if a2 = (4 : Int32) then (if (y26 &&& (15 : Int32)) = (0 : Int32) then true else false : Bool) else (if (y26 &&& (15 : Int32)) = (15 : Int32) then false else true : Bool) : Bool)) (Nat.le_of_ble_eq_true rfl) dX7_zero_253 (fun H locs hP hD hS => ?_)
                      obtain ⟨hP, hD⟩ := pM_h hP hD
                      refine lv_aload_n hx hb dX7_zero_256 rfl (lv_at hl 0 rfl) ?_
                      refine lv_iload_n hx hb dX7_zero_257 rfl (lv_at hl 1 rfl) ?_
                      refine lv_iload hx hb dX7_zero_258 (lv_at hl 5 rfl) ?_
                      obtain ⟨hPc, hDc, hFc⟩ := xM_M hP hD hS hA
                      have hKc := hK.sub (tys' := [(cI, .int)]) [0] rfl
                      refine va_callv (va_runV (As := [.int a1, .int y26]) (rest := []) ⟨hx, hb, hml, hown, hts⟩ (k_X7_setReg l dC dI cI mO memA dskA rgA inA outA H.size (sMW_h (sMW_spent u (if a1 = (6 : Int32) then 10 else 5 : Int32)) (if a2 = (4 : Int32) then (if (y26 &&& (15 : Int32)) = (0 : Int32) then true else false : Bool) else (if (y26 &&& (15 : Int32)) = (15 : Int32) then false else true : Bool) : Bool)) a1 y26 h1) (cwV 2 hts gX7_zero_X7_setReg rfl rfl rfl (by decide +kernel) ⟨Nat.le_of_ble_eq_true rfl, Nat.le_of_ble_eq_true rfl⟩) ⟨fun a U g mk q => by obtain ⟨q0, q1, qP, qK, qD⟩ := q; exact ⟨q0, q1, qP, va_K.moved (u := U) (U := U.calling g mk a) (Vm.Alike.refl U.vm) qK, qD⟩, va_recv hKc hPc (ci := 7) (q0 := 0) rfl rfl, fun U hU hW => ⟨rfl, by rw [hU], by rw [hU]; exact hPc, va_K.moved hW.alike hKc, hDc.weaken (fun _ _ _ _ => trivial)⟩⟩ rfl rfl hl.1 rfl (lv_room (Nat.le_of_ble_eq_true rfl)) dX7_zero_260 ⟨Nat.le_of_ble_eq_true rfl, Nat.le_of_ble_eq_true rfl⟩) hS (fun q _ h => hFc q h) hFc (fun u9 t H1 locs ht hvm hw hB hz1 hk1 hS => ?_)
                      subst hw
                      obtain ⟨hP1, hK1, hD1⟩ := hB
                      rw [ht] at hP1
                      obtain ⟨hP, hD⟩ := jM_M hP hD hk1 hFc hP1 hD1
                      clear hPc hDc hKc hFc hz1 hk1 hP1 hK1 hD1 ht hvm
                      generalize H1 = H at hP hS ⊢
                      refine lv_aload_n hx hb dX7_zero_263 rfl (lv_at hl 0 rfl) ?_
                      refine lv_iload hx hb dX7_zero_264 (lv_at hl 5 rfl) ?_
                      obtain ⟨hPc, hDc, hFc⟩ := xM_M hP hD hS hA
                      have hKc := hK.sub (tys' := [(cI, .int)]) [0] rfl
                      refine va_callv (va_runV (As := [.int y26]) (rest := []) ⟨hx, hb, hml, hown, hts⟩ (k_X7_logic l dC dI cI mO memA dskA rgA inA outA H.size (f_X7_setReg (sMW_h (sMW_spent u (if a1 = (6 : Int32) then 10 else 5 : Int32)) (if a2 = (4 : Int32) then (if (y26 &&& (15 : Int32)) = (0 : Int32) then true else false : Bool) else (if (y26 &&& (15 : Int32)) = (15 : Int32) then false else true : Bool) : Bool)) a1 y26) y26) (cwV 1 hts gX7_zero_X7_logic rfl rfl rfl (by decide +kernel) ⟨Nat.le_of_ble_eq_true rfl, Nat.le_of_ble_eq_true rfl⟩) ⟨fun a U g mk q => by obtain ⟨q0, q1, qP, qK, qD⟩ := q; exact ⟨q0, q1, qP, va_K.moved (u := U) (U := U.calling g mk a) (Vm.Alike.refl U.vm) qK, qD⟩, va_recv hKc hPc (ci := 7) (q0 := 0) rfl rfl, fun U hU hW => ⟨rfl, by rw [hU], by rw [hU]; exact hPc, va_K.moved hW.alike hKc, hDc.weaken (fun _ _ _ _ => trivial)⟩⟩ rfl rfl hl.1 rfl (lv_room (Nat.le_of_ble_eq_true rfl)) dX7_zero_266 ⟨Nat.le_of_ble_eq_true rfl, Nat.le_of_ble_eq_true rfl⟩) hS (fun q _ h => hFc q h) hFc (fun u9 t H1 locs ht hvm hw hB hz1 hk1 hS => ?_)
                      subst hw
                      obtain ⟨hP1, hK1, hD1⟩ := hB
                      rw [ht] at hP1
                      obtain ⟨hP, hD⟩ := jM_M hP hD hk1 hFc hP1 hD1
                      clear hPc hDc hKc hFc hz1 hk1 hP1 hK1 hD1 ht hvm
                      generalize H1 = H at hP hS ⊢
                      refine lv_goto (tgt := 311) hx hb dX7_zero_269 (by decide) ?_
                      exact W.vret hx hb hr (fun t ht hW => ⟨⟨(f_X7_logic (f_X7_setReg (sMW_h (sMW_spent u (if a1 = (6 : Int32) then 10 else 5 : Int32)) (if a2 = (4 : Int32) then (if (y26 &&& (15 : Int32)) = (0 : Int32) then true else false : Bool) else (if (y26 &&& (15 : Int32)) = (15 : Int32) then false else true : Bool) : Bool)) a1 y26) y26), rfl, (by subst ey26; simp only [f_X7_zero, if_neg c2, if_neg c3, if_neg c7, if_neg c8, if_neg c11, if_pos c23]), by rw [ht]; exact hP, va_K.moved hW.alike hK, hD⟩, hS.F ht⟩) hS.2.2 dX7_zero_311
                    · skip
                      refine lv_icmp_ne (tgt := 238) hx hb dX7_zero_219 (by decide) (fun c28 => ?_) (fun c28 => ?_)
                      · skip
                        refine lv_iload hx hb dX7_zero_238 (lv_at hl 0 rfl) ?_
                        refine lv_bipush (v := 15) hx hb dX7_zero_240 (by decide) ?_
                        refine lv_iand hx hb dX7_zero_242 ?_
                        refine lv_bipush (v := 15) hx hb dX7_zero_243 (by decide) ?_
                        refine jn_b (D := (dC, dI)) (cl := vwCl) (ws := (wM cI mO memA dskA rgA inA outA (sMW_spent u (if a1 = (6 : Int32) then 10 else 5 : Int32)))) (A := A) (H0 := s.heap) (nL := 6) 253 (if (y26 &&& (15 : Int32)) = (15 : Int32) then false else true : Bool) [(0, .ref mO), (1, .int a1), (2, .int a2), (3, .int (a1 / (2 : Int32))), (4, .int (bI (if (a1 - a1 / (2 : Int32) * (2 : Int32)) = (1 : Int32) then true else false : Bool))), (5, .int y26)] [.ref mO] (fun H locs ls hP hS hl => ?_) (fun hJ29 => ?_)
                        · skip
                          exact hJ27 (if (y26 &&& (15 : Int32)) = (15 : Int32) then false else true : Bool) _ _ _ (by simp only [if_neg c28]) hP hS (lv_sub hl [0, 1, 2, 3, 4, 5] rfl)
                        · skip
                          refine lv_icmp_eq (tgt := 252) hx hb dX7_zero_245 (by decide) (fun c30 => ?_) (fun c30 => ?_)
                          · skip
                            refine lv_iconst (v := 0) hx hb dX7_zero_252 (by decide) ?_
                            exact hJ29 false _ _ _ (by simp only [if_pos c30]) hP hS (lv_sub hl [1, 2, 3, 4, 5, 0] rfl)
                          · skip
                            refine lv_iconst (v := 1) hx hb dX7_zero_248 (by decide) ?_
                            refine lv_goto (tgt := 253) hx hb dX7_zero_249 (by decide) ?_
                            exact hJ29 true _ _ _ (by simp only [if_neg c30]) hP hS (lv_sub hl [1, 2, 3, 4, 5, 0] rfl)
                      · skip
                        refine lv_iload hx hb dX7_zero_222 (lv_at hl 0 rfl) ?_
                        refine lv_bipush (v := 15) hx hb dX7_zero_224 (by decide) ?_
                        refine lv_iand hx hb dX7_zero_226 ?_
                        refine jn_b (D := (dC, dI)) (cl := vwCl) (ws := (wM cI mO memA dskA rgA inA outA (sMW_spent u (if a1 = (6 : Int32) then 10 else 5 : Int32)))) (A := A) (H0 := s.heap) (nL := 6) 253 (if (y26 &&& (15 : Int32)) = (0 : Int32) then true else false : Bool) [(0, .ref mO), (1, .int a1), (2, .int a2), (3, .int (a1 / (2 : Int32))), (4, .int (bI (if (a1 - a1 / (2 : Int32) * (2 : Int32)) = (1 : Int32) then true else false : Bool))), (5, .int y26)] [.ref mO] (fun H locs ls hP hS hl => ?_) (fun hJ31 => ?_)
                        · skip
                          exact hJ27 (if (y26 &&& (15 : Int32)) = (0 : Int32) then true else false : Bool) _ _ _ (by simp only [if_pos c28]) hP hS (lv_sub hl [0, 1, 2, 3, 4, 5] rfl)
                        · skip
                          refine lv_if_ne (tgt := 234) hx hb dX7_zero_227 (by decide) (fun c32 => ?_) (fun c32 => ?_)
                          · skip
                            refine lv_iconst (v := 0) hx hb dX7_zero_234 (by decide) ?_
                            refine lv_goto (tgt := 253) hx hb dX7_zero_235 (by decide) ?_
                            exact hJ31 false _ _ _ (by simp only [if_neg c32]) hP hS (lv_sub hl [1, 2, 3, 4, 5, 0] rfl)
                          · skip
                            refine lv_iconst (v := 1) hx hb dX7_zero_230 (by decide) ?_
                            refine lv_goto (tgt := 253) hx hb dX7_zero_231 (by decide) ?_
                            exact hJ31 true _ _ _ (by simp only [if_pos c32]) hP hS (lv_sub hl [1, 2, 3, 4, 5, 0] rfl)
                  · skip
                    refine lv_icmp_ne (tgt := 203) hx hb dX7_zero_190 (by decide) (fun c33 => ?_) (fun c33 => ?_)
                    · skip
                      refine lv_aload_n hx hb dX7_zero_203 rfl (lv_at hl 0 rfl) ?_
                      refine lv_iload_n hx hb dX7_zero_204 rfl (lv_at hl 1 rfl) ?_
                      obtain ⟨hPc, hDc, hFc⟩ := xM_M hP hD hS hA
                      have hKc := hK.sub (tys' := [(cI, .int)]) [0] rfl
                      refine va_calli (va_runV (As := [.int a1]) (rest := []) ⟨hx, hb, hml, hown, hts⟩ (k_X7_reg l dC dI cI mO memA dskA rgA inA outA H.size (sMW_spent u (if a1 = (6 : Int32) then 10 else 5 : Int32)) a1 h1) (cwV 1 hts gX7_zero_X7_reg rfl rfl rfl (by decide +kernel) ⟨Nat.le_of_ble_eq_true rfl, Nat.le_of_ble_eq_true rfl⟩) ⟨fun a U g mk q => by obtain ⟨q0, q1, qP, qK, qD⟩ := q; exact ⟨q0, q1, qP, va_K.moved (u := U) (U := U.calling g mk a) (Vm.Alike.refl U.vm) qK, qD⟩, va_recv hKc hPc (ci := 7) (q0 := 0) rfl rfl, fun U hU hW => ⟨rfl, by rw [hU], by rw [hU]; exact hPc, va_K.moved hW.alike hKc, hDc.weaken (fun _ _ _ _ => trivial)⟩⟩ rfl rfl hl.1 rfl (lv_room (Nat.le_of_ble_eq_true rfl)) dX7_zero_205 ⟨Nat.le_of_ble_eq_true rfl, Nat.le_of_ble_eq_true rfl⟩) hS (fun q _ h => hFc q h) hFc (fun r9 u9 t H1 locs ht hvm hw hB hz1 hk1 hS => ?_)
                      obtain ⟨hw1, hw2⟩ := hw
                      have hw2 := hw2.symm
                      subst hw1 hw2
                      obtain ⟨hP1, hK1, hD1⟩ := hB
                      rw [ht] at hP1
                      obtain ⟨hP, hD⟩ := jM_M0 hP hD hk1 hFc hP1 hD1
                      clear hPc hDc hKc hFc hz1 hk1 hP1 hK1 hD1 ht hvm
                      generalize H1 = H at hP hS ⊢
                      refine lv_iconst (v := 1) hx hb dX7_zero_208 (by decide) ?_
                      refine lv_isub hx hb dX7_zero_209 ?_
                      exact hJ25 ((f_X7_reg (sMW_spent u (if a1 = (6 : Int32) then 10 else 5 : Int32)) a1) - (1 : Int32)) _ _ _ (by simp only [if_neg c33]) hP hS (lv_sub hl [0, 1, 2, 3, 4] rfl)
                    · skip
                      refine lv_aload_n hx hb dX7_zero_193 rfl (lv_at hl 0 rfl) ?_
                      refine lv_iload_n hx hb dX7_zero_194 rfl (lv_at hl 1 rfl) ?_
                      obtain ⟨hPc, hDc, hFc⟩ := xM_M hP hD hS hA
                      have hKc := hK.sub (tys' := [(cI, .int)]) [0] rfl
                      refine va_calli (va_runV (As := [.int a1]) (rest := []) ⟨hx, hb, hml, hown, hts⟩ (k_X7_reg l dC dI cI mO memA dskA rgA inA outA H.size (sMW_spent u (if a1 = (6 : Int32) then 10 else 5 : Int32)) a1 h1) (cwV 1 hts gX7_zero_X7_reg rfl rfl rfl (by decide +kernel) ⟨Nat.le_of_ble_eq_true rfl, Nat.le_of_ble_eq_true rfl⟩) ⟨fun a U g mk q => by obtain ⟨q0, q1, qP, qK, qD⟩ := q; exact ⟨q0, q1, qP, va_K.moved (u := U) (U := U.calling g mk a) (Vm.Alike.refl U.vm) qK, qD⟩, va_recv hKc hPc (ci := 7) (q0 := 0) rfl rfl, fun U hU hW => ⟨rfl, by rw [hU], by rw [hU]; exact hPc, va_K.moved hW.alike hKc, hDc.weaken (fun _ _ _ _ => trivial)⟩⟩ rfl rfl hl.1 rfl (lv_room (Nat.le_of_ble_eq_true rfl)) dX7_zero_195 ⟨Nat.le_of_ble_eq_true rfl, Nat.le_of_ble_eq_true rfl⟩) hS (fun q _ h => hFc q h) hFc (fun r9 u9 t H1 locs ht hvm hw hB hz1 hk1 hS => ?_)
                      obtain ⟨hw1, hw2⟩ := hw
                      have hw2 := hw2.symm
                      subst hw1 hw2
                      obtain ⟨hP1, hK1, hD1⟩ := hB
                      rw [ht] at hP1
                      obtain ⟨hP, hD⟩ := jM_M0 hP hD hk1 hFc hP1 hD1
                      clear hPc hDc hKc hFc hz1 hk1 hP1 hK1 hD1 ht hvm
                      generalize H1 = H at hP hS ⊢
                      refine lv_iconst (v := 1) hx hb dX7_zero_198 (by decide) ?_
                      refine lv_iadd hx hb dX7_zero_199 ?_
                      refine lv_goto (tgt := 210) hx hb dX7_zero_200 (by decide) ?_
                      exact hJ25 ((f_X7_reg (sMW_spent u (if a1 = (6 : Int32) then 10 else 5 : Int32)) a1) + (1 : Int32)) _ _ _ (by simp only [if_pos c33]) hP hS (lv_sub hl [0, 1, 2, 3, 4] rfl)
                · skip
                  refine lv_icmp_ne (tgt := 184) hx hb dX7_zero_176 (by decide) (fun c34 => ?_) (fun c34 => ?_)
                  · skip
                    refine lv_iconst (v := 5) hx hb dX7_zero_184 (by decide) ?_
                    exact hJ24 5 _ _ _ (by simp only [if_neg c34]) hP hS (lv_sub hl [1, 2, 3, 4, 0] rfl)
                  · skip
                    refine lv_bipush (v := 10) hx hb dX7_zero_179 (by decide) ?_
                    refine lv_goto (tgt := 185) hx hb dX7_zero_181 (by decide) ?_
                    exact hJ24 10 _ _ _ (by simp only [if_pos c34]) hP hS (lv_sub hl [1, 2, 3, 4, 0] rfl)
              · skip
                by_cases c35 : a2 = 6
                · refine tb_in (k := 6) (off := 253) (tgt := 272) hx hb dX7_zero_19 c35 (by decide) (by decide) (by decide) (by decide) ?_
                  refine lv_aload_n hx hb dX7_zero_272 rfl (lv_at hl 1 rfl) ?_
                  refine lv_iload_n hx hb dX7_zero_273 rfl (lv_at hl 2 rfl) ?_
                  refine lv_bipush (v := 6) hx hb dX7_zero_274 (by decide) ?_
                  refine jn_i (D := (dC, dI)) (cl := vwCl) (ws := (wM cI mO memA dskA rgA inA outA u)) (A := A) (H0 := s.heap) (nL := 6) 286 (if a1 = (6 : Int32) then 10 else 7 : Int32) [(0, .ref mO), (1, .int a1), (2, .int a2), (3, .int (a1 / (2 : Int32))), (4, .int (bI (if (a1 - a1 / (2 : Int32) * (2 : Int32)) = (1 : Int32) then true else false : Bool)))] [.ref mO] (fun H locs ls hP hS hl => ?_) (fun hJ36 => ?_)
                  · skip
                    refine va_put (D := (dC, dI)) (ci := 7) (v := .int (if a1 = (6 : Int32) then 10 else 7 : Int32)) (ty := .int) (C := RX7) (T := TX7) (N := 30) hx hb hts iX7_zero_X7 tyX7 tyX7_ok nmX7 hown hK hP hD hS 0 rfl rfl 16 (by decide) (hts _ qX7_zero_0) (fun _ h9 => h9) rfl (by decide +kernel) rfl rfl (Nat.le_of_ble_eq_true rfl) dX7_zero_286 (fun H locs hP hD hS => ?_)
                    obtain ⟨hP, hD⟩ := pM_spent hP hD
                    refine lv_aload_n hx hb dX7_zero_289 rfl (lv_at hl 0 rfl) ?_
                    refine lv_iload_n hx hb dX7_zero_290 rfl (lv_at hl 1 rfl) ?_
                    refine lv_aload_n hx hb dX7_zero_291 rfl (lv_at hl 0 rfl) ?_
                    obtain ⟨hPc, hDc, hFc⟩ := xM_M hP hD hS hA
                    have hKc := hK.sub (tys' := [(cI, .int)]) [0] rfl
                    refine va_calli (va_runV (As := []) (rest := [.int a1, .ref mO]) ⟨hx, hb, hml, hown, hts⟩ (k_X7_next l dC dI cI mO memA dskA rgA inA outA H.size (sMW_spent u (if a1 = (6 : Int32) then 10 else 7 : Int32))) (cwV 0 hts gX7_zero_X7_next rfl rfl rfl (by decide +kernel) ⟨Nat.le_of_ble_eq_true rfl, Nat.le_of_ble_eq_true rfl⟩) ⟨fun a U g mk q => by obtain ⟨q0, q1, qP, qK, qD⟩ := q; exact ⟨q0, q1, qP, va_K.moved (u := U) (U := U.calling g mk a) (Vm.Alike.refl U.vm) qK, qD⟩, va_recv hKc hPc (ci := 7) (q0 := 0) rfl rfl, fun U hU hW => ⟨rfl, by rw [hU], by rw [hU]; exact hPc, va_K.moved hW.alike hKc, hDc.weaken (fun _ _ _ _ => trivial)⟩⟩ rfl rfl hl.1 rfl (lv_room (Nat.le_of_ble_eq_true rfl)) dX7_zero_292 ⟨Nat.le_of_ble_eq_true rfl, Nat.le_of_ble_eq_true rfl⟩) hS (fun q _ h => hFc q h) hFc (fun r9 u9 t H1 locs ht hvm hw hB hz1 hk1 hS => ?_)
                    obtain ⟨rfl, rfl⟩ := hw
                    obtain ⟨hP1, hK1, hD1⟩ := hB
                    rw [ht] at hP1
                    obtain ⟨hP, hD⟩ := jM_M hP hD hk1 hFc hP1 hD1
                    clear hPc hDc hKc hFc hz1 hk1 hP1 hK1 hD1 ht hvm
                    generalize H1 = H at hP hS ⊢
                    obtain ⟨hPc, hDc, hFc⟩ := xM_M hP hD hS hA
                    have hKc := hK.sub (tys' := [(cI, .int)]) [0] rfl
                    refine va_callv (va_runV (As := [.int a1, .int (f_X7_next (sMW_spent u (if a1 = (6 : Int32) then 10 else 7 : Int32))).1]) (rest := []) ⟨hx, hb, hml, hown, hts⟩ (k_X7_setReg l dC dI cI mO memA dskA rgA inA outA H.size (f_X7_next (sMW_spent u (if a1 = (6 : Int32) then 10 else 7 : Int32))).2 a1 (f_X7_next (sMW_spent u (if a1 = (6 : Int32) then 10 else 7 : Int32))).1 h1) (cwV 2 hts gX7_zero_X7_setReg rfl rfl rfl (by decide +kernel) ⟨Nat.le_of_ble_eq_true rfl, Nat.le_of_ble_eq_true rfl⟩) ⟨fun a U g mk q => by obtain ⟨q0, q1, qP, qK, qD⟩ := q; exact ⟨q0, q1, qP, va_K.moved (u := U) (U := U.calling g mk a) (Vm.Alike.refl U.vm) qK, qD⟩, va_recv hKc hPc (ci := 7) (q0 := 0) rfl rfl, fun U hU hW => ⟨rfl, by rw [hU], by rw [hU]; exact hPc, va_K.moved hW.alike hKc, hDc.weaken (fun _ _ _ _ => trivial)⟩⟩ rfl rfl hl.1 rfl (lv_room (Nat.le_of_ble_eq_true rfl)) dX7_zero_295 ⟨Nat.le_of_ble_eq_true rfl, Nat.le_of_ble_eq_true rfl⟩) hS (fun q _ h => hFc q h) hFc (fun u9 t H1 locs ht hvm hw hB hz1 hk1 hS => ?_)
                    subst hw
                    obtain ⟨hP1, hK1, hD1⟩ := hB
                    rw [ht] at hP1
                    obtain ⟨hP, hD⟩ := jM_M hP hD hk1 hFc hP1 hD1
                    clear hPc hDc hKc hFc hz1 hk1 hP1 hK1 hD1 ht hvm
                    generalize H1 = H at hP hS ⊢
                    refine lv_goto (tgt := 311) hx hb dX7_zero_298 (by decide) ?_
                    exact W.vret hx hb hr (fun t ht hW => ⟨⟨(f_X7_setReg (f_X7_next (sMW_spent u (if a1 = (6 : Int32) then 10 else 7 : Int32))).2 a1 (f_X7_next (sMW_spent u (if a1 = (6 : Int32) then 10 else 7 : Int32))).1), rfl, (by simp only [f_X7_zero, if_neg c2, if_neg c3, if_neg c7, if_neg c8, if_neg c11, if_neg c23, if_pos c35]), by rw [ht]; exact hP, va_K.moved hW.alike hK, hD⟩, hS.F ht⟩) hS.2.2 dX7_zero_311
                  · skip
                    refine lv_icmp_ne (tgt := 284) hx hb dX7_zero_276 (by decide) (fun c37 => ?_) (fun c37 => ?_)
                    · skip
                      refine lv_bipush (v := 7) hx hb dX7_zero_284 (by decide) ?_
                      exact hJ36 7 _ _ _ (by simp only [if_neg c37]) hP hS (lv_sub hl [1, 2, 3, 4, 0] rfl)
                    · skip
                      refine lv_bipush (v := 10) hx hb dX7_zero_279 (by decide) ?_
                      refine lv_goto (tgt := 286) hx hb dX7_zero_281 (by decide) ?_
                      exact hJ36 10 _ _ _ (by simp only [if_pos c37]) hP hS (lv_sub hl [1, 2, 3, 4, 0] rfl)
                · skip
                  refine lv_tableOut (tgt := 301) hx hb dX7_zero_19 (by have r0 := lv_neT c2 (a := 0) (by decide); have r1 := lv_neT c3 (a := 1) (by decide); have r2 := lv_neT c7 (a := 2) (by decide); have r3 := lv_neT c8 (a := 3) (by decide); have r4 := lv_neT c11 (a := 4) (by decide); have r5 := lv_neT c23 (a := 5) (by decide); have r6 := lv_neT c35 (a := 6) (by decide); omega) (by decide) ?_
                  refine lv_aload_n hx hb dX7_zero_301 rfl (lv_at hl 1 rfl) ?_
                  refine lv_iconst (v := 4) hx hb dX7_zero_302 (by decide) ?_
                  refine va_put (D := (dC, dI)) (ci := 7) (v := .int 4) (ty := .int) (C := RX7) (T := TX7) (N := 30) hx hb hts iX7_zero_X7 tyX7 tyX7_ok nmX7 hown hK hP hD hS 0 rfl rfl 16 (by decide) (hts _ qX7_zero_0) (fun _ h9 => h9) rfl (by decide +kernel) rfl rfl (Nat.le_of_ble_eq_true rfl) dX7_zero_303 (fun H locs hP hD hS => ?_)
                  obtain ⟨hP, hD⟩ := pM_spent hP hD
                  refine lv_aload_n hx hb dX7_zero_306 rfl (lv_at hl 1 rfl) ?_
                  refine lv_iload_n hx hb dX7_zero_307 rfl (lv_at hl 2 rfl) ?_
                  obtain ⟨hPc, hDc, hFc⟩ := xM_M hP hD hS hA
                  have hKc := hK.sub (tys' := [(cI, .int)]) [0] rfl
                  refine va_callv (va_runV (As := [.int a1]) (rest := []) ⟨hx, hb, hml, hown, hts⟩ (k_X7_turn l dC dI cI mO memA dskA rgA inA outA H.size (sMW_spent u 4) a1) (cwV 1 hts gX7_zero_X7_turn rfl rfl rfl (by decide +kernel) ⟨Nat.le_of_ble_eq_true rfl, Nat.le_of_ble_eq_true rfl⟩) ⟨fun a U g mk q => by obtain ⟨q0, q1, qP, qK, qD⟩ := q; exact ⟨q0, q1, qP, va_K.moved (u := U) (U := U.calling g mk a) (Vm.Alike.refl U.vm) qK, qD⟩, va_recv hKc hPc (ci := 7) (q0 := 0) rfl rfl, fun U hU hW => ⟨rfl, by rw [hU], by rw [hU]; exact hPc, va_K.moved hW.alike hKc, hDc.weaken (fun _ _ _ _ => trivial)⟩⟩ rfl rfl hl.1 rfl (lv_room (Nat.le_of_ble_eq_true rfl)) dX7_zero_308 ⟨Nat.le_of_ble_eq_true rfl, Nat.le_of_ble_eq_true rfl⟩) hS (fun q _ h => hFc q h) hFc (fun u9 t H1 locs ht hvm hw hB hz1 hk1 hS => ?_)
                  subst hw
                  obtain ⟨hP1, hK1, hD1⟩ := hB
                  rw [ht] at hP1
                  obtain ⟨hP, hD⟩ := jM_M hP hD hk1 hFc hP1 hD1
                  clear hPc hDc hKc hFc hz1 hk1 hP1 hK1 hD1 ht hvm
                  generalize H1 = H at hP hS ⊢
                  exact W.vret hx hb hr (fun t ht hW => ⟨⟨(f_X7_turn (sMW_spent u 4) a1), rfl, (by simp only [f_X7_zero, if_neg c2, if_neg c3, if_neg c7, if_neg c8, if_neg c11, if_neg c23, if_neg c35]), by rw [ht]; exact hP, va_K.moved hW.alike hK, hD⟩, hS.F ht⟩) hS.2.2 dX7_zero_311
  · skip
    refine lv_icmp_ne (tgt := 15) hx hb dX7_zero_8 (by decide) (fun c38 => ?_) (fun c38 => ?_)
    · skip
      refine lv_iconst (v := 0) hx hb dX7_zero_15 (by decide) ?_
      exact hJ1 false _ _ _ (by simp only [if_neg c38]) hP hS (lv_sub hl [1, 2, 3, 0] rfl)
    · skip
      refine lv_iconst (v := 1) hx hb dX7_zero_11 (by decide) ?_
      refine lv_goto (tgt := 16) hx hb dX7_zero_12 (by decide) ?_
      exact hJ1 true _ _ _ (by simp only [if_pos c38]) hP hS (lv_sub hl [1, 2, 3, 0] rfl)
