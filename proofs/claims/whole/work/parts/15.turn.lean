def f_X4_turn (u : PW) : Int32 × PW := 
  if (gPW_P_want u) = ((-1) : Int32) then 
    if (bI (gPW_P_hlt u)) = (0 : Int32) then 
      if (f_X2_letPass (gPW_KW (sPW_P_cyc (f_X4_instruction u).2 ((gPW_P_cyc (f_X4_instruction u).2) + ((f_X4_instruction u).1 : Int32).toInt64))) (f_X4_instruction u).1).1 = ((-1) : Int32) then ((f_X4_instruction u).1, (sPW_KW (sPW_P_cyc (f_X4_instruction u).2 ((gPW_P_cyc (f_X4_instruction u).2) + ((f_X4_instruction u).1 : Int32).toInt64)) (f_X2_letPass (gPW_KW (sPW_P_cyc (f_X4_instruction u).2 ((gPW_P_cyc (f_X4_instruction u).2) + ((f_X4_instruction u).1 : Int32).toInt64))) (f_X4_instruction u).1).2))
      else ((f_X4_instruction u).1, (sPW_P_want (sPW_KW (sPW_P_cyc (f_X4_instruction u).2 ((gPW_P_cyc (f_X4_instruction u).2) + ((f_X4_instruction u).1 : Int32).toInt64)) (f_X2_letPass (gPW_KW (sPW_P_cyc (f_X4_instruction u).2 ((gPW_P_cyc (f_X4_instruction u).2) + ((f_X4_instruction u).1 : Int32).toInt64))) (f_X4_instruction u).1).2) (f_X2_letPass (gPW_KW (sPW_P_cyc (f_X4_instruction u).2 ((gPW_P_cyc (f_X4_instruction u).2) + ((f_X4_instruction u).1 : Int32).toInt64))) (f_X4_instruction u).1).1))
    else 
      if (f_X2_letPass (gPW_KW (sPW_P_cyc u ((gPW_P_cyc u) + (4 : Int32).toInt64))) 4).1 = ((-1) : Int32) then (4, (sPW_KW (sPW_P_cyc u ((gPW_P_cyc u) + (4 : Int32).toInt64)) (f_X2_letPass (gPW_KW (sPW_P_cyc u ((gPW_P_cyc u) + (4 : Int32).toInt64))) 4).2))
      else (4, (sPW_P_want (sPW_KW (sPW_P_cyc u ((gPW_P_cyc u) + (4 : Int32).toInt64)) (f_X2_letPass (gPW_KW (sPW_P_cyc u ((gPW_P_cyc u) + (4 : Int32).toInt64))) 4).2) (f_X2_letPass (gPW_KW (sPW_P_cyc u ((gPW_P_cyc u) + (4 : Int32).toInt64))) 4).1))
  else 
    if (bI (gPW_P_on u)) = (0 : Int32) then 
      if (bI (gPW_P_hlt u)) = (0 : Int32) then 
        if (f_X2_letPass (gPW_KW (sPW_P_cyc (f_X4_instruction u).2 ((gPW_P_cyc (f_X4_instruction u).2) + ((f_X4_instruction u).1 : Int32).toInt64))) (f_X4_instruction u).1).1 = ((-1) : Int32) then ((f_X4_instruction u).1, (sPW_KW (sPW_P_cyc (f_X4_instruction u).2 ((gPW_P_cyc (f_X4_instruction u).2) + ((f_X4_instruction u).1 : Int32).toInt64)) (f_X2_letPass (gPW_KW (sPW_P_cyc (f_X4_instruction u).2 ((gPW_P_cyc (f_X4_instruction u).2) + ((f_X4_instruction u).1 : Int32).toInt64))) (f_X4_instruction u).1).2))
        else ((f_X4_instruction u).1, (sPW_P_want (sPW_KW (sPW_P_cyc (f_X4_instruction u).2 ((gPW_P_cyc (f_X4_instruction u).2) + ((f_X4_instruction u).1 : Int32).toInt64)) (f_X2_letPass (gPW_KW (sPW_P_cyc (f_X4_instruction u).2 ((gPW_P_cyc (f_X4_instruction u).2) + ((f_X4_instruction u).1 : Int32).toInt64))) (f_X4_instruction u).1).2) (f_X2_letPass (gPW_KW (sPW_P_cyc (f_X4_instruction u).2 ((gPW_P_cyc (f_X4_instruction u).2) + ((f_X4_instruction u).1 : Int32).toInt64))) (f_X4_instruction u).1).1))
      else 
        if (f_X2_letPass (gPW_KW (sPW_P_cyc u ((gPW_P_cyc u) + (4 : Int32).toInt64))) 4).1 = ((-1) : Int32) then (4, (sPW_KW (sPW_P_cyc u ((gPW_P_cyc u) + (4 : Int32).toInt64)) (f_X2_letPass (gPW_KW (sPW_P_cyc u ((gPW_P_cyc u) + (4 : Int32).toInt64))) 4).2))
        else (4, (sPW_P_want (sPW_KW (sPW_P_cyc u ((gPW_P_cyc u) + (4 : Int32).toInt64)) (f_X2_letPass (gPW_KW (sPW_P_cyc u ((gPW_P_cyc u) + (4 : Int32).toInt64))) 4).2) (f_X2_letPass (gPW_KW (sPW_P_cyc u ((gPW_P_cyc u) + (4 : Int32).toInt64))) 4).1))
    else 
      if (bI (gPW_P_jon u)) = (0 : Int32) then 
        if (f_X2_letPass (gPW_KW (sPW_P_cyc (f_X4_answerInterrupt u).2 ((gPW_P_cyc (f_X4_answerInterrupt u).2) + ((f_X4_answerInterrupt u).1 : Int32).toInt64))) (f_X4_answerInterrupt u).1).1 = ((-1) : Int32) then ((f_X4_answerInterrupt u).1, (sPW_KW (sPW_P_cyc (f_X4_answerInterrupt u).2 ((gPW_P_cyc (f_X4_answerInterrupt u).2) + ((f_X4_answerInterrupt u).1 : Int32).toInt64)) (f_X2_letPass (gPW_KW (sPW_P_cyc (f_X4_answerInterrupt u).2 ((gPW_P_cyc (f_X4_answerInterrupt u).2) + ((f_X4_answerInterrupt u).1 : Int32).toInt64))) (f_X4_answerInterrupt u).1).2))
        else ((f_X4_answerInterrupt u).1, (sPW_P_want (sPW_KW (sPW_P_cyc (f_X4_answerInterrupt u).2 ((gPW_P_cyc (f_X4_answerInterrupt u).2) + ((f_X4_answerInterrupt u).1 : Int32).toInt64)) (f_X2_letPass (gPW_KW (sPW_P_cyc (f_X4_answerInterrupt u).2 ((gPW_P_cyc (f_X4_answerInterrupt u).2) + ((f_X4_answerInterrupt u).1 : Int32).toInt64))) (f_X4_answerInterrupt u).1).2) (f_X2_letPass (gPW_KW (sPW_P_cyc (f_X4_answerInterrupt u).2 ((gPW_P_cyc (f_X4_answerInterrupt u).2) + ((f_X4_answerInterrupt u).1 : Int32).toInt64))) (f_X4_answerInterrupt u).1).1))
      else 
        if (bI (gPW_P_hlt u)) = (0 : Int32) then 
          if (f_X2_letPass (gPW_KW (sPW_P_cyc (f_X4_instruction u).2 ((gPW_P_cyc (f_X4_instruction u).2) + ((f_X4_instruction u).1 : Int32).toInt64))) (f_X4_instruction u).1).1 = ((-1) : Int32) then ((f_X4_instruction u).1, (sPW_KW (sPW_P_cyc (f_X4_instruction u).2 ((gPW_P_cyc (f_X4_instruction u).2) + ((f_X4_instruction u).1 : Int32).toInt64)) (f_X2_letPass (gPW_KW (sPW_P_cyc (f_X4_instruction u).2 ((gPW_P_cyc (f_X4_instruction u).2) + ((f_X4_instruction u).1 : Int32).toInt64))) (f_X4_instruction u).1).2))
          else ((f_X4_instruction u).1, (sPW_P_want (sPW_KW (sPW_P_cyc (f_X4_instruction u).2 ((gPW_P_cyc (f_X4_instruction u).2) + ((f_X4_instruction u).1 : Int32).toInt64)) (f_X2_letPass (gPW_KW (sPW_P_cyc (f_X4_instruction u).2 ((gPW_P_cyc (f_X4_instruction u).2) + ((f_X4_instruction u).1 : Int32).toInt64))) (f_X4_instruction u).1).2) (f_X2_letPass (gPW_KW (sPW_P_cyc (f_X4_instruction u).2 ((gPW_P_cyc (f_X4_instruction u).2) + ((f_X4_instruction u).1 : Int32).toInt64))) (f_X4_instruction u).1).1))
        else 
          if (f_X2_letPass (gPW_KW (sPW_P_cyc u ((gPW_P_cyc u) + (4 : Int32).toInt64))) 4).1 = ((-1) : Int32) then (4, (sPW_KW (sPW_P_cyc u ((gPW_P_cyc u) + (4 : Int32).toInt64)) (f_X2_letPass (gPW_KW (sPW_P_cyc u ((gPW_P_cyc u) + (4 : Int32).toInt64))) 4).2))
          else (4, (sPW_P_want (sPW_KW (sPW_P_cyc u ((gPW_P_cyc u) + (4 : Int32).toInt64)) (f_X2_letPass (gPW_KW (sPW_P_cyc u ((gPW_P_cyc u) + (4 : Int32).toInt64))) 4).2) (f_X2_letPass (gPW_KW (sPW_P_cyc u ((gPW_P_cyc u) + (4 : Int32).toInt64))) 4).1))
theorem qX4_turn_0 : Cond.fieldLink RX4 31 "DiskMachine$Processor" "wanted" "I" ∈ wsX4_turn := by decide +kernel
theorem qX4_turn_1 : Cond.fieldLink RX4 62 "DiskMachine$Processor" "halted" "Z" ∈ wsX4_turn := by decide +kernel
theorem qX4_turn_2 : Cond.fieldLink RX4 66 "DiskMachine$Processor" "interruptsOn" "Z" ∈ wsX4_turn := by decide +kernel
theorem qX4_turn_3 : Cond.fieldLink RX4 73 "DiskMachine$Processor" "justSetOn" "Z" ∈ wsX4_turn := by decide +kernel
theorem qX4_turn_4 : Cond.fieldLink RX4 69 "DiskMachine$Processor" "cyclesDone" "J" ∈ wsX4_turn := by decide +kernel
theorem qX4_turn_5 : Cond.fieldLink RX4 43 "DiskMachine$Processor" "controller" "LDiskMachine$Controller;" ∈ wsX4_turn := by decide +kernel
theorem iX4_turn_X4 : ∀ w ∈ wsX40, w ∈ wsX4_turn := by decide +kernel
set_option maxHeartbeats 4000000 in
set_option maxRecDepth 100000 in
theorem k_X4_turn (l : Launch) (dC : Nat → ClassId) (dI : Nat → Nat → Nat) (cI : ClassId) (pO mS mA dS dA cO iA oA kO fO aO rA : Nat) (sz : Nat) (u : PW) (hC : ∃ i j : Nat, i < 64 ∧ j ≤ 64 ∧ gCS_fst (gPW_C u) = nI i ∧ gCS_cnt (gPW_C u) = nI j) : Met l yX4_turn wsX4_turn ({ frames := 6, cells := 0, slots := 0, locals := 134 }) (va_Pc [.ref pO] (wB dC dI [(cI, .int)] sz (wP cI pO mS mA dS dA cO iA oA kO fO aO rA u))) (va_Qi (fun (r : Int32) (u' : PW) => r = (f_X4_turn u).1 ∧ u' = (f_X4_turn u).2) (fun u' => wE dC dI [(cI, .int)] (va_A (wP cI pO mS mA dS dA cO iA oA kO fO aO rA u) sz) (wP cI pO mS mA dS dA cO iA oA kO fO aO rA u')) (va_A (wP cI pO mS mA dS dA cO iA oA kO fO aO rA u) sz)) 0 0 (va_A (wP cI pO mS mA dS dA cO iA oA kO fO aO rA u) sz) := by
  refine Met.ofW (cc := cX4_turn) (maxL := 3) (ret := (some .int)) (by decide) rfl ?_
  intro p e s m args below meth c s₁ B hml hv
  obtain ⟨rfl, hsz, hP, hK, hD0⟩ := hv
  have hx := B.exec
  have hb := B.bytes
  have hr := B.returns
  have hts := atoms_spec (ws := wsX4_turn) B.pre
  have hown : s.vm.findClass RX4 = some m.cls := findClass_of_methodNamed B.named
  have hlocks := B.notSynchronized
  subst hsz
  have hD := hD0.self (sz := s.heap.size)
  generalize hAe : va_A (wP cI pO mS mA dS dA cO iA oA kO fO aO rA u) s.heap.size = A at hD ⊢
  have hA : ∀ q : Nat, s.heap.size ≤ q → A q := fun q h => by rw [← hAe]; exact Or.inr h
  have hS : va_S A s.heap s.heap [] := va_S.rf
  have hP : va_P (dC, dI) vwCl (wP cI pO mS mA dS dA cO iA oA kO fO aO rA u) s.heap := hP
  clear hAe hD0
  have hl := lv_entry ([.ref pO]) (n := 3) (Nat.le_of_ble_eq_true rfl)
  rw [lg_entry_eq]
  generalize (lg_sl ([.ref pO]) ++ List.replicate (3 - (lg_sl ([.ref pO])).length) Slot.unset).toArray = ls at hl ⊢
  have hl : lv_has ls 3 [(0, .ref pO)] := hl
  refine jn_H hP hS (fun H locs hP hS => ?_)
  refine lv_aload_n hx hb dX4_turn_0 rfl (lv_at hl 0 rfl) ?_
  refine va_get (D := (dC, dI)) (ci := 4) (v := .int (gPW_P_want u)) (C := RX4) (T := TX4) (N := 13) hx hb hts iX4_turn_X4 hown hK hP 0 rfl rfl 11 (by decide) (hts _ qX4_turn_0) (fun _ h9 => h9) rfl dX4_turn_1 ?_
  refine lv_iconst (v := (-1)) hx hb dX4_turn_4 (by decide) ?_
  refine lv_icmp_eq (tgt := 30) hx hb dX4_turn_5 (by decide) (fun c1 => ?_) (fun c1 => ?_)
  · skip
    refine lv_aload_n hx hb dX4_turn_30 rfl (lv_at hl 0 rfl) ?_
    refine va_get (D := (dC, dI)) (ci := 4) (v := .int (bI (gPW_P_hlt u))) (C := RX4) (T := TX4) (N := 13) hx hb hts iX4_turn_X4 hown hK hP 0 rfl rfl 8 (by decide) (hts _ qX4_turn_1) (fun _ h9 => h9) rfl dX4_turn_31 ?_
    refine lv_if_eq (tgt := 42) hx hb dX4_turn_34 (by decide) (fun c2 => ?_) (fun c2 => ?_)
    · skip
      refine lv_aload_n hx hb dX4_turn_42 rfl (lv_at hl 0 rfl) ?_
      obtain ⟨hPc, hDc, hFc⟩ := xP_P hP hD hS hA
      have hKc := hK.sub (tys' := [(cI, .int)]) [0] rfl
      refine va_calli (va_runV (As := []) (rest := []) ⟨hx, hb, hml, hown, hts⟩ (k_X4_instruction l dC dI cI pO mS mA dS dA cO iA oA kO fO aO rA H.size u hC) (cwV 0 hts gX4_turn_X4_instruction rfl rfl rfl (by decide +kernel) ⟨Nat.le_of_ble_eq_true rfl, Nat.le_of_ble_eq_true rfl⟩) ⟨fun a U g mk q => by obtain ⟨q0, q1, qP, qK, qD⟩ := q; exact ⟨q0, q1, qP, va_K.moved (u := U) (U := U.calling g mk a) (Vm.Alike.refl U.vm) qK, qD⟩, va_recv hKc hPc (ci := 4) (q0 := 0) rfl rfl, fun U hU hW => ⟨rfl, by rw [hU], by rw [hU]; exact hPc, va_K.moved hW.alike hKc, hDc.weaken (fun _ _ _ _ => trivial)⟩⟩ rfl rfl hl.1 rfl (lv_room (Nat.le_of_ble_eq_true rfl)) dX4_turn_43 ⟨Nat.le_of_ble_eq_true rfl, Nat.le_of_ble_eq_true rfl⟩) hS (fun q _ h => hFc q h) hFc (fun r9 u9 t H1 locs ht hvm hw hB hz1 hk1 hS => ?_)
      obtain ⟨rfl, rfl⟩ := hw
      obtain ⟨hP1, hK1, hD1⟩ := hB
      rw [ht] at hP1
      obtain ⟨hP, hD⟩ := jP_P hP hD hk1 hFc hP1 hD1
      clear hPc hDc hKc hFc hz1 hk1 hP1 hK1 hD1 ht hvm
      generalize H1 = H at hP hS ⊢
      refine lv_istore_n (lv' := [(1, .int (f_X4_instruction u).1), (0, .ref pO)]) hx hb dX4_turn_46 rfl hl (by decide) rfl (fun ls hl => ?_)
      refine lv_aload_n hx hb dX4_turn_47 rfl (lv_at hl 1 rfl) ?_
      refine lv_dup hx hb dX4_turn_48 rfl ?_
      refine va_get (D := (dC, dI)) (ci := 4) (v := .long (gPW_P_cyc (f_X4_instruction u).2)) (C := RX4) (T := TX4) (N := 13) hx hb hts iX4_turn_X4 hown hK hP 0 rfl rfl 12 (by decide) (hts _ qX4_turn_4) (fun _ h9 => h9) rfl dX4_turn_49 ?_
      refine lv_iload_n hx hb dX4_turn_52 rfl (lv_at hl 0 rfl) ?_
      refine lv_i2l (v := ((f_X4_instruction u).1 : Int32).toInt64) hx hb dX4_turn_53 rfl ?_
      refine lv_ladd hx hb dX4_turn_54 ?_
      refine va_put (D := (dC, dI)) (ci := 4) (v := .long ((gPW_P_cyc (f_X4_instruction u).2) + ((f_X4_instruction u).1 : Int32).toInt64)) (ty := .long) (C := RX4) (T := TX4) (N := 13) hx hb hts iX4_turn_X4 tyX4 tyX4_ok nmX4 hown hK hP hD hS 0 rfl rfl 12 (by decide) (hts _ qX4_turn_4) (fun _ h9 => h9) rfl (by decide +kernel) rfl rfl (Nat.le_of_ble_eq_true rfl) dX4_turn_55 (fun H locs hP hD hS => ?_)
      obtain ⟨hP, hD⟩ := pP_P_cyc hP hD
      refine lv_aload_n hx hb dX4_turn_58 rfl (lv_at hl 1 rfl) ?_
      refine va_get (D := (dC, dI)) (ci := 4) (v := .ref kO) (C := RX4) (T := TX4) (N := 13) hx hb hts iX4_turn_X4 hown hK hP 0 rfl rfl 2 (by decide) (hts _ qX4_turn_5) (fun _ h9 => h9) rfl dX4_turn_59 ?_
      refine lv_iload_n hx hb dX4_turn_62 rfl (lv_at hl 0 rfl) ?_
      obtain ⟨hPc, hDc, hFc⟩ := xP_K hP hD hS hA
      have hKc := hK.sub (tys' := [(cI, .int)]) [0] rfl
      refine va_calli (va_runV (As := [.int (f_X4_instruction u).1]) (rest := []) ⟨hx, hb, hml, hown, hts⟩ (k_X2_letPass l dC dI cI kO mS mA dS dA H.size (gPW_KW (sPW_P_cyc (f_X4_instruction u).2 ((gPW_P_cyc (f_X4_instruction u).2) + ((f_X4_instruction u).1 : Int32).toInt64))) (f_X4_instruction u).1) (cwV 1 hts gX4_turn_X2_letPass rfl rfl rfl (by decide +kernel) ⟨Nat.le_of_ble_eq_true rfl, Nat.le_of_ble_eq_true rfl⟩) ⟨fun a U g mk q => by obtain ⟨q0, q1, qP, qK, qD⟩ := q; exact ⟨q0, q1, qP, va_K.moved (u := U) (U := U.calling g mk a) (Vm.Alike.refl U.vm) qK, qD⟩, va_recv hKc hPc (ci := 2) (q0 := 0) rfl rfl, fun U hU hW => ⟨rfl, by rw [hU], by rw [hU]; exact hPc, va_K.moved hW.alike hKc, hDc.weaken (fun _ _ _ _ => trivial)⟩⟩ rfl rfl hl.1 rfl (lv_room (Nat.le_of_ble_eq_true rfl)) dX4_turn_63 ⟨Nat.le_of_ble_eq_true rfl, Nat.le_of_ble_eq_true rfl⟩) hS (fun q _ h => hFc q h) hFc (fun r9 u9 t H1 locs ht hvm hw hB hz1 hk1 hS => ?_)
      obtain ⟨rfl, rfl⟩ := hw
      obtain ⟨hP1, hK1, hD1⟩ := hB
      rw [ht] at hP1
      obtain ⟨hP, hD⟩ := jP_K hP hD hk1 hFc hP1 hD1
      clear hPc hDc hKc hFc hz1 hk1 hP1 hK1 hD1 ht hvm
      generalize H1 = H at hP hS ⊢
      refine lv_topi (fun y3 ey3 => ?_)
      refine lv_istore_n (lv' := [(2, .int y3), (1, .int (f_X4_instruction u).1), (0, .ref pO)]) hx hb dX4_turn_66 rfl hl (by decide) rfl (fun ls hl => ?_)
      refine lv_iload_n hx hb dX4_turn_67 rfl (lv_at hl 0 rfl) ?_
      refine lv_iconst (v := (-1)) hx hb dX4_turn_68 (by decide) ?_
      refine lv_icmp_eq (tgt := 77) hx hb dX4_turn_69 (by decide) (fun c4 => ?_) (fun c4 => ?_)
      · skip
        refine lv_iload_n hx hb dX4_turn_77 rfl (lv_at hl 1 rfl) ?_
        exact W.iret (v := (f_X4_instruction u).1) hx hb hr (fun t ht hW => ⟨⟨(f_X4_instruction u).1, (sPW_KW (sPW_P_cyc (f_X4_instruction u).2 ((gPW_P_cyc (f_X4_instruction u).2) + ((f_X4_instruction u).1 : Int32).toInt64)) (f_X2_letPass (gPW_KW (sPW_P_cyc (f_X4_instruction u).2 ((gPW_P_cyc (f_X4_instruction u).2) + ((f_X4_instruction u).1 : Int32).toInt64))) (f_X4_instruction u).1).2), rfl, ⟨(by subst ey3; simp only [f_X4_turn, if_pos c1, if_pos c2, if_pos c4]), (by subst ey3; simp only [f_X4_turn, if_pos c1, if_pos c2, if_pos c4])⟩, by rw [ht]; exact hP, va_K.moved hW.alike hK, hD⟩, hS.F ht⟩) hS.2.2 dX4_turn_78
      · skip
        refine lv_aload_n hx hb dX4_turn_72 rfl (lv_at hl 2 rfl) ?_
        refine lv_iload_n hx hb dX4_turn_73 rfl (lv_at hl 0 rfl) ?_
        refine va_put (D := (dC, dI)) (ci := 4) (v := .int y3) (ty := .int) (C := RX4) (T := TX4) (N := 13) hx hb hts iX4_turn_X4 tyX4 tyX4_ok nmX4 hown hK hP hD hS 0 rfl rfl 11 (by decide) (hts _ qX4_turn_0) (fun _ h9 => h9) rfl (by decide +kernel) rfl rfl (Nat.le_of_ble_eq_true rfl) dX4_turn_74 (fun H locs hP hD hS => ?_)
        obtain ⟨hP, hD⟩ := pP_P_want hP hD
        refine lv_iload_n hx hb dX4_turn_77 rfl (lv_at hl 1 rfl) ?_
        exact W.iret (v := (f_X4_instruction u).1) hx hb hr (fun t ht hW => ⟨⟨(f_X4_instruction u).1, (sPW_P_want (sPW_KW (sPW_P_cyc (f_X4_instruction u).2 ((gPW_P_cyc (f_X4_instruction u).2) + ((f_X4_instruction u).1 : Int32).toInt64)) (f_X2_letPass (gPW_KW (sPW_P_cyc (f_X4_instruction u).2 ((gPW_P_cyc (f_X4_instruction u).2) + ((f_X4_instruction u).1 : Int32).toInt64))) (f_X4_instruction u).1).2) y3), rfl, ⟨(by subst ey3; simp only [f_X4_turn, if_pos c1, if_pos c2, if_neg c4]), (by subst ey3; simp only [f_X4_turn, if_pos c1, if_pos c2, if_neg c4])⟩, by rw [ht]; exact hP, va_K.moved hW.alike hK, hD⟩, hS.F ht⟩) hS.2.2 dX4_turn_78
    · skip
      refine lv_iconst (v := 4) hx hb dX4_turn_37 (by decide) ?_
      refine lv_istore_n (lv' := [(1, .int 4), (0, .ref pO)]) hx hb dX4_turn_38 rfl hl (by decide) rfl (fun ls hl => ?_)
      refine lv_goto (tgt := 47) hx hb dX4_turn_39 (by decide) ?_
      refine lv_aload_n hx hb dX4_turn_47 rfl (lv_at hl 1 rfl) ?_
      refine lv_dup hx hb dX4_turn_48 rfl ?_
      refine va_get (D := (dC, dI)) (ci := 4) (v := .long (gPW_P_cyc u)) (C := RX4) (T := TX4) (N := 13) hx hb hts iX4_turn_X4 hown hK hP 0 rfl rfl 12 (by decide) (hts _ qX4_turn_4) (fun _ h9 => h9) rfl dX4_turn_49 ?_
      refine lv_iload_n hx hb dX4_turn_52 rfl (lv_at hl 0 rfl) ?_
      refine lv_i2l (v := (4 : Int32).toInt64) hx hb dX4_turn_53 rfl ?_
      refine lv_ladd hx hb dX4_turn_54 ?_
      refine va_put (D := (dC, dI)) (ci := 4) (v := .long ((gPW_P_cyc u) + (4 : Int32).toInt64)) (ty := .long) (C := RX4) (T := TX4) (N := 13) hx hb hts iX4_turn_X4 tyX4 tyX4_ok nmX4 hown hK hP hD hS 0 rfl rfl 12 (by decide) (hts _ qX4_turn_4) (fun _ h9 => h9) rfl (by decide +kernel) rfl rfl (Nat.le_of_ble_eq_true rfl) dX4_turn_55 (fun H locs hP hD hS => ?_)
      obtain ⟨hP, hD⟩ := pP_P_cyc hP hD
      refine lv_aload_n hx hb dX4_turn_58 rfl (lv_at hl 1 rfl) ?_
      refine va_get (D := (dC, dI)) (ci := 4) (v := .ref kO) (C := RX4) (T := TX4) (N := 13) hx hb hts iX4_turn_X4 hown hK hP 0 rfl rfl 2 (by decide) (hts _ qX4_turn_5) (fun _ h9 => h9) rfl dX4_turn_59 ?_
      refine lv_iload_n hx hb dX4_turn_62 rfl (lv_at hl 0 rfl) ?_
      obtain ⟨hPc, hDc, hFc⟩ := xP_K hP hD hS hA
      have hKc := hK.sub (tys' := [(cI, .int)]) [0] rfl
      refine va_calli (va_runV (As := [.int 4]) (rest := []) ⟨hx, hb, hml, hown, hts⟩ (k_X2_letPass l dC dI cI kO mS mA dS dA H.size (gPW_KW (sPW_P_cyc u ((gPW_P_cyc u) + (4 : Int32).toInt64))) 4) (cwV 1 hts gX4_turn_X2_letPass rfl rfl rfl (by decide +kernel) ⟨Nat.le_of_ble_eq_true rfl, Nat.le_of_ble_eq_true rfl⟩) ⟨fun a U g mk q => by obtain ⟨q0, q1, qP, qK, qD⟩ := q; exact ⟨q0, q1, qP, va_K.moved (u := U) (U := U.calling g mk a) (Vm.Alike.refl U.vm) qK, qD⟩, va_recv hKc hPc (ci := 2) (q0 := 0) rfl rfl, fun U hU hW => ⟨rfl, by rw [hU], by rw [hU]; exact hPc, va_K.moved hW.alike hKc, hDc.weaken (fun _ _ _ _ => trivial)⟩⟩ rfl rfl hl.1 rfl (lv_room (Nat.le_of_ble_eq_true rfl)) dX4_turn_63 ⟨Nat.le_of_ble_eq_true rfl, Nat.le_of_ble_eq_true rfl⟩) hS (fun q _ h => hFc q h) hFc (fun r9 u9 t H1 locs ht hvm hw hB hz1 hk1 hS => ?_)
      obtain ⟨rfl, rfl⟩ := hw
      obtain ⟨hP1, hK1, hD1⟩ := hB
      rw [ht] at hP1
      obtain ⟨hP, hD⟩ := jP_K hP hD hk1 hFc hP1 hD1
      clear hPc hDc hKc hFc hz1 hk1 hP1 hK1 hD1 ht hvm
      generalize H1 = H at hP hS ⊢
      refine lv_istore_n (lv' := [(2, .int (f_X2_letPass (gPW_KW (sPW_P_cyc u ((gPW_P_cyc u) + (4 : Int32).toInt64))) 4).1), (1, .int 4), (0, .ref pO)]) hx hb dX4_turn_66 rfl hl (by decide) rfl (fun ls hl => ?_)
      refine lv_iload_n hx hb dX4_turn_67 rfl (lv_at hl 0 rfl) ?_
      refine lv_iconst (v := (-1)) hx hb dX4_turn_68 (by decide) ?_
      refine lv_icmp_eq (tgt := 77) hx hb dX4_turn_69 (by decide) (fun c5 => ?_) (fun c5 => ?_)
      · skip
        refine lv_iload_n hx hb dX4_turn_77 rfl (lv_at hl 1 rfl) ?_
        exact W.iret (v := 4) hx hb hr (fun t ht hW => ⟨⟨4, (sPW_KW (sPW_P_cyc u ((gPW_P_cyc u) + (4 : Int32).toInt64)) (f_X2_letPass (gPW_KW (sPW_P_cyc u ((gPW_P_cyc u) + (4 : Int32).toInt64))) 4).2), rfl, ⟨(by simp only [f_X4_turn, if_pos c1, if_neg c2, if_pos c5]), (by simp only [f_X4_turn, if_pos c1, if_neg c2, if_pos c5])⟩, by rw [ht]; exact hP, va_K.moved hW.alike hK, hD⟩, hS.F ht⟩) hS.2.2 dX4_turn_78
      · skip
        refine lv_aload_n hx hb dX4_turn_72 rfl (lv_at hl 2 rfl) ?_
        refine lv_iload_n hx hb dX4_turn_73 rfl (lv_at hl 0 rfl) ?_
        refine va_put (D := (dC, dI)) (ci := 4) (v := .int (f_X2_letPass (gPW_KW (sPW_P_cyc u ((gPW_P_cyc u) + (4 : Int32).toInt64))) 4).1) (ty := .int) (C := RX4) (T := TX4) (N := 13) hx hb hts iX4_turn_X4 tyX4 tyX4_ok nmX4 hown hK hP hD hS 0 rfl rfl 11 (by decide) (hts _ qX4_turn_0) (fun _ h9 => h9) rfl (by decide +kernel) rfl rfl (Nat.le_of_ble_eq_true rfl) dX4_turn_74 (fun H locs hP hD hS => ?_)
        obtain ⟨hP, hD⟩ := pP_P_want hP hD
        refine lv_iload_n hx hb dX4_turn_77 rfl (lv_at hl 1 rfl) ?_
        exact W.iret (v := 4) hx hb hr (fun t ht hW => ⟨⟨4, (sPW_P_want (sPW_KW (sPW_P_cyc u ((gPW_P_cyc u) + (4 : Int32).toInt64)) (f_X2_letPass (gPW_KW (sPW_P_cyc u ((gPW_P_cyc u) + (4 : Int32).toInt64))) 4).2) (f_X2_letPass (gPW_KW (sPW_P_cyc u ((gPW_P_cyc u) + (4 : Int32).toInt64))) 4).1), rfl, ⟨(by simp only [f_X4_turn, if_pos c1, if_neg c2, if_neg c5]), (by simp only [f_X4_turn, if_pos c1, if_neg c2, if_neg c5])⟩, by rw [ht]; exact hP, va_K.moved hW.alike hK, hD⟩, hS.F ht⟩) hS.2.2 dX4_turn_78
  · skip
    refine lv_aload_n hx hb dX4_turn_8 rfl (lv_at hl 0 rfl) ?_
    refine va_get (D := (dC, dI)) (ci := 4) (v := .int (bI (gPW_P_on u))) (C := RX4) (T := TX4) (N := 13) hx hb hts iX4_turn_X4 hown hK hP 0 rfl rfl 9 (by decide) (hts _ qX4_turn_2) (fun _ h9 => h9) rfl dX4_turn_9 ?_
    refine lv_if_eq (tgt := 30) hx hb dX4_turn_12 (by decide) (fun c6 => ?_) (fun c6 => ?_)
    · skip
      refine lv_aload_n hx hb dX4_turn_30 rfl (lv_at hl 0 rfl) ?_
      refine va_get (D := (dC, dI)) (ci := 4) (v := .int (bI (gPW_P_hlt u))) (C := RX4) (T := TX4) (N := 13) hx hb hts iX4_turn_X4 hown hK hP 0 rfl rfl 8 (by decide) (hts _ qX4_turn_1) (fun _ h9 => h9) rfl dX4_turn_31 ?_
      refine lv_if_eq (tgt := 42) hx hb dX4_turn_34 (by decide) (fun c7 => ?_) (fun c7 => ?_)
      · skip
        refine lv_aload_n hx hb dX4_turn_42 rfl (lv_at hl 0 rfl) ?_
        obtain ⟨hPc, hDc, hFc⟩ := xP_P hP hD hS hA
        have hKc := hK.sub (tys' := [(cI, .int)]) [0] rfl
        refine va_calli (va_runV (As := []) (rest := []) ⟨hx, hb, hml, hown, hts⟩ (k_X4_instruction l dC dI cI pO mS mA dS dA cO iA oA kO fO aO rA H.size u hC) (cwV 0 hts gX4_turn_X4_instruction rfl rfl rfl (by decide +kernel) ⟨Nat.le_of_ble_eq_true rfl, Nat.le_of_ble_eq_true rfl⟩) ⟨fun a U g mk q => by obtain ⟨q0, q1, qP, qK, qD⟩ := q; exact ⟨q0, q1, qP, va_K.moved (u := U) (U := U.calling g mk a) (Vm.Alike.refl U.vm) qK, qD⟩, va_recv hKc hPc (ci := 4) (q0 := 0) rfl rfl, fun U hU hW => ⟨rfl, by rw [hU], by rw [hU]; exact hPc, va_K.moved hW.alike hKc, hDc.weaken (fun _ _ _ _ => trivial)⟩⟩ rfl rfl hl.1 rfl (lv_room (Nat.le_of_ble_eq_true rfl)) dX4_turn_43 ⟨Nat.le_of_ble_eq_true rfl, Nat.le_of_ble_eq_true rfl⟩) hS (fun q _ h => hFc q h) hFc (fun r9 u9 t H1 locs ht hvm hw hB hz1 hk1 hS => ?_)
        obtain ⟨rfl, rfl⟩ := hw
        obtain ⟨hP1, hK1, hD1⟩ := hB
        rw [ht] at hP1
        obtain ⟨hP, hD⟩ := jP_P hP hD hk1 hFc hP1 hD1
        clear hPc hDc hKc hFc hz1 hk1 hP1 hK1 hD1 ht hvm
        generalize H1 = H at hP hS ⊢
        refine lv_istore_n (lv' := [(1, .int (f_X4_instruction u).1), (0, .ref pO)]) hx hb dX4_turn_46 rfl hl (by decide) rfl (fun ls hl => ?_)
        refine lv_aload_n hx hb dX4_turn_47 rfl (lv_at hl 1 rfl) ?_
        refine lv_dup hx hb dX4_turn_48 rfl ?_
        refine va_get (D := (dC, dI)) (ci := 4) (v := .long (gPW_P_cyc (f_X4_instruction u).2)) (C := RX4) (T := TX4) (N := 13) hx hb hts iX4_turn_X4 hown hK hP 0 rfl rfl 12 (by decide) (hts _ qX4_turn_4) (fun _ h9 => h9) rfl dX4_turn_49 ?_
        refine lv_iload_n hx hb dX4_turn_52 rfl (lv_at hl 0 rfl) ?_
        refine lv_i2l (v := ((f_X4_instruction u).1 : Int32).toInt64) hx hb dX4_turn_53 rfl ?_
        refine lv_ladd hx hb dX4_turn_54 ?_
        refine va_put (D := (dC, dI)) (ci := 4) (v := .long ((gPW_P_cyc (f_X4_instruction u).2) + ((f_X4_instruction u).1 : Int32).toInt64)) (ty := .long) (C := RX4) (T := TX4) (N := 13) hx hb hts iX4_turn_X4 tyX4 tyX4_ok nmX4 hown hK hP hD hS 0 rfl rfl 12 (by decide) (hts _ qX4_turn_4) (fun _ h9 => h9) rfl (by decide +kernel) rfl rfl (Nat.le_of_ble_eq_true rfl) dX4_turn_55 (fun H locs hP hD hS => ?_)
        obtain ⟨hP, hD⟩ := pP_P_cyc hP hD
        refine lv_aload_n hx hb dX4_turn_58 rfl (lv_at hl 1 rfl) ?_
        refine va_get (D := (dC, dI)) (ci := 4) (v := .ref kO) (C := RX4) (T := TX4) (N := 13) hx hb hts iX4_turn_X4 hown hK hP 0 rfl rfl 2 (by decide) (hts _ qX4_turn_5) (fun _ h9 => h9) rfl dX4_turn_59 ?_
        refine lv_iload_n hx hb dX4_turn_62 rfl (lv_at hl 0 rfl) ?_
        obtain ⟨hPc, hDc, hFc⟩ := xP_K hP hD hS hA
        have hKc := hK.sub (tys' := [(cI, .int)]) [0] rfl
        refine va_calli (va_runV (As := [.int (f_X4_instruction u).1]) (rest := []) ⟨hx, hb, hml, hown, hts⟩ (k_X2_letPass l dC dI cI kO mS mA dS dA H.size (gPW_KW (sPW_P_cyc (f_X4_instruction u).2 ((gPW_P_cyc (f_X4_instruction u).2) + ((f_X4_instruction u).1 : Int32).toInt64))) (f_X4_instruction u).1) (cwV 1 hts gX4_turn_X2_letPass rfl rfl rfl (by decide +kernel) ⟨Nat.le_of_ble_eq_true rfl, Nat.le_of_ble_eq_true rfl⟩) ⟨fun a U g mk q => by obtain ⟨q0, q1, qP, qK, qD⟩ := q; exact ⟨q0, q1, qP, va_K.moved (u := U) (U := U.calling g mk a) (Vm.Alike.refl U.vm) qK, qD⟩, va_recv hKc hPc (ci := 2) (q0 := 0) rfl rfl, fun U hU hW => ⟨rfl, by rw [hU], by rw [hU]; exact hPc, va_K.moved hW.alike hKc, hDc.weaken (fun _ _ _ _ => trivial)⟩⟩ rfl rfl hl.1 rfl (lv_room (Nat.le_of_ble_eq_true rfl)) dX4_turn_63 ⟨Nat.le_of_ble_eq_true rfl, Nat.le_of_ble_eq_true rfl⟩) hS (fun q _ h => hFc q h) hFc (fun r9 u9 t H1 locs ht hvm hw hB hz1 hk1 hS => ?_)
        obtain ⟨rfl, rfl⟩ := hw
        obtain ⟨hP1, hK1, hD1⟩ := hB
        rw [ht] at hP1
        obtain ⟨hP, hD⟩ := jP_K hP hD hk1 hFc hP1 hD1
        clear hPc hDc hKc hFc hz1 hk1 hP1 hK1 hD1 ht hvm
        generalize H1 = H at hP hS ⊢
        refine lv_topi (fun y8 ey8 => ?_)
        refine lv_istore_n (lv' := [(2, .int y8), (1, .int (f_X4_instruction u).1), (0, .ref pO)]) hx hb dX4_turn_66 rfl hl (by decide) rfl (fun ls hl => ?_)
        refine lv_iload_n hx hb dX4_turn_67 rfl (lv_at hl 0 rfl) ?_
        refine lv_iconst (v := (-1)) hx hb dX4_turn_68 (by decide) ?_
        refine lv_icmp_eq (tgt := 77) hx hb dX4_turn_69 (by decide) (fun c9 => ?_) (fun c9 => ?_)
        · skip
          refine lv_iload_n hx hb dX4_turn_77 rfl (lv_at hl 1 rfl) ?_
          exact W.iret (v := (f_X4_instruction u).1) hx hb hr (fun t ht hW => ⟨⟨(f_X4_instruction u).1, (sPW_KW (sPW_P_cyc (f_X4_instruction u).2 ((gPW_P_cyc (f_X4_instruction u).2) + ((f_X4_instruction u).1 : Int32).toInt64)) (f_X2_letPass (gPW_KW (sPW_P_cyc (f_X4_instruction u).2 ((gPW_P_cyc (f_X4_instruction u).2) + ((f_X4_instruction u).1 : Int32).toInt64))) (f_X4_instruction u).1).2), rfl, ⟨(by subst ey8; simp only [f_X4_turn, if_neg c1, if_pos c6, if_pos c7, if_pos c9]), (by subst ey8; simp only [f_X4_turn, if_neg c1, if_pos c6, if_pos c7, if_pos c9])⟩, by rw [ht]; exact hP, va_K.moved hW.alike hK, hD⟩, hS.F ht⟩) hS.2.2 dX4_turn_78
        · skip
          refine lv_aload_n hx hb dX4_turn_72 rfl (lv_at hl 2 rfl) ?_
          refine lv_iload_n hx hb dX4_turn_73 rfl (lv_at hl 0 rfl) ?_
          refine va_put (D := (dC, dI)) (ci := 4) (v := .int y8) (ty := .int) (C := RX4) (T := TX4) (N := 13) hx hb hts iX4_turn_X4 tyX4 tyX4_ok nmX4 hown hK hP hD hS 0 rfl rfl 11 (by decide) (hts _ qX4_turn_0) (fun _ h9 => h9) rfl (by decide +kernel) rfl rfl (Nat.le_of_ble_eq_true rfl) dX4_turn_74 (fun H locs hP hD hS => ?_)
          obtain ⟨hP, hD⟩ := pP_P_want hP hD
          refine lv_iload_n hx hb dX4_turn_77 rfl (lv_at hl 1 rfl) ?_
          exact W.iret (v := (f_X4_instruction u).1) hx hb hr (fun t ht hW => ⟨⟨(f_X4_instruction u).1, (sPW_P_want (sPW_KW (sPW_P_cyc (f_X4_instruction u).2 ((gPW_P_cyc (f_X4_instruction u).2) + ((f_X4_instruction u).1 : Int32).toInt64)) (f_X2_letPass (gPW_KW (sPW_P_cyc (f_X4_instruction u).2 ((gPW_P_cyc (f_X4_instruction u).2) + ((f_X4_instruction u).1 : Int32).toInt64))) (f_X4_instruction u).1).2) y8), rfl, ⟨(by subst ey8; simp only [f_X4_turn, if_neg c1, if_pos c6, if_pos c7, if_neg c9]), (by subst ey8; simp only [f_X4_turn, if_neg c1, if_pos c6, if_pos c7, if_neg c9])⟩, by rw [ht]; exact hP, va_K.moved hW.alike hK, hD⟩, hS.F ht⟩) hS.2.2 dX4_turn_78
      · skip
        refine lv_iconst (v := 4) hx hb dX4_turn_37 (by decide) ?_
        refine lv_istore_n (lv' := [(1, .int 4), (0, .ref pO)]) hx hb dX4_turn_38 rfl hl (by decide) rfl (fun ls hl => ?_)
        refine lv_goto (tgt := 47) hx hb dX4_turn_39 (by decide) ?_
        refine lv_aload_n hx hb dX4_turn_47 rfl (lv_at hl 1 rfl) ?_
        refine lv_dup hx hb dX4_turn_48 rfl ?_
        refine va_get (D := (dC, dI)) (ci := 4) (v := .long (gPW_P_cyc u)) (C := RX4) (T := TX4) (N := 13) hx hb hts iX4_turn_X4 hown hK hP 0 rfl rfl 12 (by decide) (hts _ qX4_turn_4) (fun _ h9 => h9) rfl dX4_turn_49 ?_
        refine lv_iload_n hx hb dX4_turn_52 rfl (lv_at hl 0 rfl) ?_
        refine lv_i2l (v := (4 : Int32).toInt64) hx hb dX4_turn_53 rfl ?_
        refine lv_ladd hx hb dX4_turn_54 ?_
        refine va_put (D := (dC, dI)) (ci := 4) (v := .long ((gPW_P_cyc u) + (4 : Int32).toInt64)) (ty := .long) (C := RX4) (T := TX4) (N := 13) hx hb hts iX4_turn_X4 tyX4 tyX4_ok nmX4 hown hK hP hD hS 0 rfl rfl 12 (by decide) (hts _ qX4_turn_4) (fun _ h9 => h9) rfl (by decide +kernel) rfl rfl (Nat.le_of_ble_eq_true rfl) dX4_turn_55 (fun H locs hP hD hS => ?_)
        obtain ⟨hP, hD⟩ := pP_P_cyc hP hD
        refine lv_aload_n hx hb dX4_turn_58 rfl (lv_at hl 1 rfl) ?_
        refine va_get (D := (dC, dI)) (ci := 4) (v := .ref kO) (C := RX4) (T := TX4) (N := 13) hx hb hts iX4_turn_X4 hown hK hP 0 rfl rfl 2 (by decide) (hts _ qX4_turn_5) (fun _ h9 => h9) rfl dX4_turn_59 ?_
        refine lv_iload_n hx hb dX4_turn_62 rfl (lv_at hl 0 rfl) ?_
        obtain ⟨hPc, hDc, hFc⟩ := xP_K hP hD hS hA
        have hKc := hK.sub (tys' := [(cI, .int)]) [0] rfl
        refine va_calli (va_runV (As := [.int 4]) (rest := []) ⟨hx, hb, hml, hown, hts⟩ (k_X2_letPass l dC dI cI kO mS mA dS dA H.size (gPW_KW (sPW_P_cyc u ((gPW_P_cyc u) + (4 : Int32).toInt64))) 4) (cwV 1 hts gX4_turn_X2_letPass rfl rfl rfl (by decide +kernel) ⟨Nat.le_of_ble_eq_true rfl, Nat.le_of_ble_eq_true rfl⟩) ⟨fun a U g mk q => by obtain ⟨q0, q1, qP, qK, qD⟩ := q; exact ⟨q0, q1, qP, va_K.moved (u := U) (U := U.calling g mk a) (Vm.Alike.refl U.vm) qK, qD⟩, va_recv hKc hPc (ci := 2) (q0 := 0) rfl rfl, fun U hU hW => ⟨rfl, by rw [hU], by rw [hU]; exact hPc, va_K.moved hW.alike hKc, hDc.weaken (fun _ _ _ _ => trivial)⟩⟩ rfl rfl hl.1 rfl (lv_room (Nat.le_of_ble_eq_true rfl)) dX4_turn_63 ⟨Nat.le_of_ble_eq_true rfl, Nat.le_of_ble_eq_true rfl⟩) hS (fun q _ h => hFc q h) hFc (fun r9 u9 t H1 locs ht hvm hw hB hz1 hk1 hS => ?_)
        obtain ⟨rfl, rfl⟩ := hw
        obtain ⟨hP1, hK1, hD1⟩ := hB
        rw [ht] at hP1
        obtain ⟨hP, hD⟩ := jP_K hP hD hk1 hFc hP1 hD1
        clear hPc hDc hKc hFc hz1 hk1 hP1 hK1 hD1 ht hvm
        generalize H1 = H at hP hS ⊢
        refine lv_istore_n (lv' := [(2, .int (f_X2_letPass (gPW_KW (sPW_P_cyc u ((gPW_P_cyc u) + (4 : Int32).toInt64))) 4).1), (1, .int 4), (0, .ref pO)]) hx hb dX4_turn_66 rfl hl (by decide) rfl (fun ls hl => ?_)
        refine lv_iload_n hx hb dX4_turn_67 rfl (lv_at hl 0 rfl) ?_
        refine lv_iconst (v := (-1)) hx hb dX4_turn_68 (by decide) ?_
        refine lv_icmp_eq (tgt := 77) hx hb dX4_turn_69 (by decide) (fun c10 => ?_) (fun c10 => ?_)
        · skip
          refine lv_iload_n hx hb dX4_turn_77 rfl (lv_at hl 1 rfl) ?_
          exact W.iret (v := 4) hx hb hr (fun t ht hW => ⟨⟨4, (sPW_KW (sPW_P_cyc u ((gPW_P_cyc u) + (4 : Int32).toInt64)) (f_X2_letPass (gPW_KW (sPW_P_cyc u ((gPW_P_cyc u) + (4 : Int32).toInt64))) 4).2), rfl, ⟨(by simp only [f_X4_turn, if_neg c1, if_pos c6, if_neg c7, if_pos c10]), (by simp only [f_X4_turn, if_neg c1, if_pos c6, if_neg c7, if_pos c10])⟩, by rw [ht]; exact hP, va_K.moved hW.alike hK, hD⟩, hS.F ht⟩) hS.2.2 dX4_turn_78
        · skip
          refine lv_aload_n hx hb dX4_turn_72 rfl (lv_at hl 2 rfl) ?_
          refine lv_iload_n hx hb dX4_turn_73 rfl (lv_at hl 0 rfl) ?_
          refine va_put (D := (dC, dI)) (ci := 4) (v := .int (f_X2_letPass (gPW_KW (sPW_P_cyc u ((gPW_P_cyc u) + (4 : Int32).toInt64))) 4).1) (ty := .int) (C := RX4) (T := TX4) (N := 13) hx hb hts iX4_turn_X4 tyX4 tyX4_ok nmX4 hown hK hP hD hS 0 rfl rfl 11 (by decide) (hts _ qX4_turn_0) (fun _ h9 => h9) rfl (by decide +kernel) rfl rfl (Nat.le_of_ble_eq_true rfl) dX4_turn_74 (fun H locs hP hD hS => ?_)
          obtain ⟨hP, hD⟩ := pP_P_want hP hD
          refine lv_iload_n hx hb dX4_turn_77 rfl (lv_at hl 1 rfl) ?_
          exact W.iret (v := 4) hx hb hr (fun t ht hW => ⟨⟨4, (sPW_P_want (sPW_KW (sPW_P_cyc u ((gPW_P_cyc u) + (4 : Int32).toInt64)) (f_X2_letPass (gPW_KW (sPW_P_cyc u ((gPW_P_cyc u) + (4 : Int32).toInt64))) 4).2) (f_X2_letPass (gPW_KW (sPW_P_cyc u ((gPW_P_cyc u) + (4 : Int32).toInt64))) 4).1), rfl, ⟨(by simp only [f_X4_turn, if_neg c1, if_pos c6, if_neg c7, if_neg c10]), (by simp only [f_X4_turn, if_neg c1, if_pos c6, if_neg c7, if_neg c10])⟩, by rw [ht]; exact hP, va_K.moved hW.alike hK, hD⟩, hS.F ht⟩) hS.2.2 dX4_turn_78
    · skip
      refine lv_aload_n hx hb dX4_turn_15 rfl (lv_at hl 0 rfl) ?_
      refine va_get (D := (dC, dI)) (ci := 4) (v := .int (bI (gPW_P_jon u))) (C := RX4) (T := TX4) (N := 13) hx hb hts iX4_turn_X4 hown hK hP 0 rfl rfl 10 (by decide) (hts _ qX4_turn_3) (fun _ h9 => h9) rfl dX4_turn_16 ?_
      refine lv_if_ne (tgt := 30) hx hb dX4_turn_19 (by decide) (fun c11 => ?_) (fun c11 => ?_)
      · skip
        refine lv_aload_n hx hb dX4_turn_30 rfl (lv_at hl 0 rfl) ?_
        refine va_get (D := (dC, dI)) (ci := 4) (v := .int (bI (gPW_P_hlt u))) (C := RX4) (T := TX4) (N := 13) hx hb hts iX4_turn_X4 hown hK hP 0 rfl rfl 8 (by decide) (hts _ qX4_turn_1) (fun _ h9 => h9) rfl dX4_turn_31 ?_
        refine lv_if_eq (tgt := 42) hx hb dX4_turn_34 (by decide) (fun c12 => ?_) (fun c12 => ?_)
        · skip
          refine lv_aload_n hx hb dX4_turn_42 rfl (lv_at hl 0 rfl) ?_
          obtain ⟨hPc, hDc, hFc⟩ := xP_P hP hD hS hA
          have hKc := hK.sub (tys' := [(cI, .int)]) [0] rfl
          refine va_calli (va_runV (As := []) (rest := []) ⟨hx, hb, hml, hown, hts⟩ (k_X4_instruction l dC dI cI pO mS mA dS dA cO iA oA kO fO aO rA H.size u hC) (cwV 0 hts gX4_turn_X4_instruction rfl rfl rfl (by decide +kernel) ⟨Nat.le_of_ble_eq_true rfl, Nat.le_of_ble_eq_true rfl⟩) ⟨fun a U g mk q => by obtain ⟨q0, q1, qP, qK, qD⟩ := q; exact ⟨q0, q1, qP, va_K.moved (u := U) (U := U.calling g mk a) (Vm.Alike.refl U.vm) qK, qD⟩, va_recv hKc hPc (ci := 4) (q0 := 0) rfl rfl, fun U hU hW => ⟨rfl, by rw [hU], by rw [hU]; exact hPc, va_K.moved hW.alike hKc, hDc.weaken (fun _ _ _ _ => trivial)⟩⟩ rfl rfl hl.1 rfl (lv_room (Nat.le_of_ble_eq_true rfl)) dX4_turn_43 ⟨Nat.le_of_ble_eq_true rfl, Nat.le_of_ble_eq_true rfl⟩) hS (fun q _ h => hFc q h) hFc (fun r9 u9 t H1 locs ht hvm hw hB hz1 hk1 hS => ?_)
          obtain ⟨rfl, rfl⟩ := hw
          obtain ⟨hP1, hK1, hD1⟩ := hB
          rw [ht] at hP1
          obtain ⟨hP, hD⟩ := jP_P hP hD hk1 hFc hP1 hD1
          clear hPc hDc hKc hFc hz1 hk1 hP1 hK1 hD1 ht hvm
          generalize H1 = H at hP hS ⊢
          refine lv_istore_n (lv' := [(1, .int (f_X4_instruction u).1), (0, .ref pO)]) hx hb dX4_turn_46 rfl hl (by decide) rfl (fun ls hl => ?_)
          refine lv_aload_n hx hb dX4_turn_47 rfl (lv_at hl 1 rfl) ?_
          refine lv_dup hx hb dX4_turn_48 rfl ?_
          refine va_get (D := (dC, dI)) (ci := 4) (v := .long (gPW_P_cyc (f_X4_instruction u).2)) (C := RX4) (T := TX4) (N := 13) hx hb hts iX4_turn_X4 hown hK hP 0 rfl rfl 12 (by decide) (hts _ qX4_turn_4) (fun _ h9 => h9) rfl dX4_turn_49 ?_
          refine lv_iload_n hx hb dX4_turn_52 rfl (lv_at hl 0 rfl) ?_
          refine lv_i2l (v := ((f_X4_instruction u).1 : Int32).toInt64) hx hb dX4_turn_53 rfl ?_
          refine lv_ladd hx hb dX4_turn_54 ?_
          refine va_put (D := (dC, dI)) (ci := 4) (v := .long ((gPW_P_cyc (f_X4_instruction u).2) + ((f_X4_instruction u).1 : Int32).toInt64)) (ty := .long) (C := RX4) (T := TX4) (N := 13) hx hb hts iX4_turn_X4 tyX4 tyX4_ok nmX4 hown hK hP hD hS 0 rfl rfl 12 (by decide) (hts _ qX4_turn_4) (fun _ h9 => h9) rfl (by decide +kernel) rfl rfl (Nat.le_of_ble_eq_true rfl) dX4_turn_55 (fun H locs hP hD hS => ?_)
          obtain ⟨hP, hD⟩ := pP_P_cyc hP hD
          refine lv_aload_n hx hb dX4_turn_58 rfl (lv_at hl 1 rfl) ?_
          refine va_get (D := (dC, dI)) (ci := 4) (v := .ref kO) (C := RX4) (T := TX4) (N := 13) hx hb hts iX4_turn_X4 hown hK hP 0 rfl rfl 2 (by decide) (hts _ qX4_turn_5) (fun _ h9 => h9) rfl dX4_turn_59 ?_
          refine lv_iload_n hx hb dX4_turn_62 rfl (lv_at hl 0 rfl) ?_
          obtain ⟨hPc, hDc, hFc⟩ := xP_K hP hD hS hA
          have hKc := hK.sub (tys' := [(cI, .int)]) [0] rfl
          refine va_calli (va_runV (As := [.int (f_X4_instruction u).1]) (rest := []) ⟨hx, hb, hml, hown, hts⟩ (k_X2_letPass l dC dI cI kO mS mA dS dA H.size (gPW_KW (sPW_P_cyc (f_X4_instruction u).2 ((gPW_P_cyc (f_X4_instruction u).2) + ((f_X4_instruction u).1 : Int32).toInt64))) (f_X4_instruction u).1) (cwV 1 hts gX4_turn_X2_letPass rfl rfl rfl (by decide +kernel) ⟨Nat.le_of_ble_eq_true rfl, Nat.le_of_ble_eq_true rfl⟩) ⟨fun a U g mk q => by obtain ⟨q0, q1, qP, qK, qD⟩ := q; exact ⟨q0, q1, qP, va_K.moved (u := U) (U := U.calling g mk a) (Vm.Alike.refl U.vm) qK, qD⟩, va_recv hKc hPc (ci := 2) (q0 := 0) rfl rfl, fun U hU hW => ⟨rfl, by rw [hU], by rw [hU]; exact hPc, va_K.moved hW.alike hKc, hDc.weaken (fun _ _ _ _ => trivial)⟩⟩ rfl rfl hl.1 rfl (lv_room (Nat.le_of_ble_eq_true rfl)) dX4_turn_63 ⟨Nat.le_of_ble_eq_true rfl, Nat.le_of_ble_eq_true rfl⟩) hS (fun q _ h => hFc q h) hFc (fun r9 u9 t H1 locs ht hvm hw hB hz1 hk1 hS => ?_)
          obtain ⟨rfl, rfl⟩ := hw
          obtain ⟨hP1, hK1, hD1⟩ := hB
          rw [ht] at hP1
          obtain ⟨hP, hD⟩ := jP_K hP hD hk1 hFc hP1 hD1
          clear hPc hDc hKc hFc hz1 hk1 hP1 hK1 hD1 ht hvm
          generalize H1 = H at hP hS ⊢
          refine lv_topi (fun y13 ey13 => ?_)
          refine lv_istore_n (lv' := [(2, .int y13), (1, .int (f_X4_instruction u).1), (0, .ref pO)]) hx hb dX4_turn_66 rfl hl (by decide) rfl (fun ls hl => ?_)
          refine lv_iload_n hx hb dX4_turn_67 rfl (lv_at hl 0 rfl) ?_
          refine lv_iconst (v := (-1)) hx hb dX4_turn_68 (by decide) ?_
          refine lv_icmp_eq (tgt := 77) hx hb dX4_turn_69 (by decide) (fun c14 => ?_) (fun c14 => ?_)
          · skip
            refine lv_iload_n hx hb dX4_turn_77 rfl (lv_at hl 1 rfl) ?_
            exact W.iret (v := (f_X4_instruction u).1) hx hb hr (fun t ht hW => ⟨⟨(f_X4_instruction u).1, (sPW_KW (sPW_P_cyc (f_X4_instruction u).2 ((gPW_P_cyc (f_X4_instruction u).2) + ((f_X4_instruction u).1 : Int32).toInt64)) (f_X2_letPass (gPW_KW (sPW_P_cyc (f_X4_instruction u).2 ((gPW_P_cyc (f_X4_instruction u).2) + ((f_X4_instruction u).1 : Int32).toInt64))) (f_X4_instruction u).1).2), rfl, ⟨(by subst ey13; simp only [f_X4_turn, if_neg c1, if_neg c6, if_neg c11, if_pos c12, if_pos c14]), (by subst ey13; simp only [f_X4_turn, if_neg c1, if_neg c6, if_neg c11, if_pos c12, if_pos c14])⟩, by rw [ht]; exact hP, va_K.moved hW.alike hK, hD⟩, hS.F ht⟩) hS.2.2 dX4_turn_78
          · skip
            refine lv_aload_n hx hb dX4_turn_72 rfl (lv_at hl 2 rfl) ?_
            refine lv_iload_n hx hb dX4_turn_73 rfl (lv_at hl 0 rfl) ?_
            refine va_put (D := (dC, dI)) (ci := 4) (v := .int y13) (ty := .int) (C := RX4) (T := TX4) (N := 13) hx hb hts iX4_turn_X4 tyX4 tyX4_ok nmX4 hown hK hP hD hS 0 rfl rfl 11 (by decide) (hts _ qX4_turn_0) (fun _ h9 => h9) rfl (by decide +kernel) rfl rfl (Nat.le_of_ble_eq_true rfl) dX4_turn_74 (fun H locs hP hD hS => ?_)
            obtain ⟨hP, hD⟩ := pP_P_want hP hD
            refine lv_iload_n hx hb dX4_turn_77 rfl (lv_at hl 1 rfl) ?_
            exact W.iret (v := (f_X4_instruction u).1) hx hb hr (fun t ht hW => ⟨⟨(f_X4_instruction u).1, (sPW_P_want (sPW_KW (sPW_P_cyc (f_X4_instruction u).2 ((gPW_P_cyc (f_X4_instruction u).2) + ((f_X4_instruction u).1 : Int32).toInt64)) (f_X2_letPass (gPW_KW (sPW_P_cyc (f_X4_instruction u).2 ((gPW_P_cyc (f_X4_instruction u).2) + ((f_X4_instruction u).1 : Int32).toInt64))) (f_X4_instruction u).1).2) y13), rfl, ⟨(by subst ey13; simp only [f_X4_turn, if_neg c1, if_neg c6, if_neg c11, if_pos c12, if_neg c14]), (by subst ey13; simp only [f_X4_turn, if_neg c1, if_neg c6, if_neg c11, if_pos c12, if_neg c14])⟩, by rw [ht]; exact hP, va_K.moved hW.alike hK, hD⟩, hS.F ht⟩) hS.2.2 dX4_turn_78
        · skip
          refine lv_iconst (v := 4) hx hb dX4_turn_37 (by decide) ?_
          refine lv_istore_n (lv' := [(1, .int 4), (0, .ref pO)]) hx hb dX4_turn_38 rfl hl (by decide) rfl (fun ls hl => ?_)
          refine lv_goto (tgt := 47) hx hb dX4_turn_39 (by decide) ?_
          refine lv_aload_n hx hb dX4_turn_47 rfl (lv_at hl 1 rfl) ?_
          refine lv_dup hx hb dX4_turn_48 rfl ?_
          refine va_get (D := (dC, dI)) (ci := 4) (v := .long (gPW_P_cyc u)) (C := RX4) (T := TX4) (N := 13) hx hb hts iX4_turn_X4 hown hK hP 0 rfl rfl 12 (by decide) (hts _ qX4_turn_4) (fun _ h9 => h9) rfl dX4_turn_49 ?_
          refine lv_iload_n hx hb dX4_turn_52 rfl (lv_at hl 0 rfl) ?_
          refine lv_i2l (v := (4 : Int32).toInt64) hx hb dX4_turn_53 rfl ?_
          refine lv_ladd hx hb dX4_turn_54 ?_
          refine va_put (D := (dC, dI)) (ci := 4) (v := .long ((gPW_P_cyc u) + (4 : Int32).toInt64)) (ty := .long) (C := RX4) (T := TX4) (N := 13) hx hb hts iX4_turn_X4 tyX4 tyX4_ok nmX4 hown hK hP hD hS 0 rfl rfl 12 (by decide) (hts _ qX4_turn_4) (fun _ h9 => h9) rfl (by decide +kernel) rfl rfl (Nat.le_of_ble_eq_true rfl) dX4_turn_55 (fun H locs hP hD hS => ?_)
          obtain ⟨hP, hD⟩ := pP_P_cyc hP hD
          refine lv_aload_n hx hb dX4_turn_58 rfl (lv_at hl 1 rfl) ?_
          refine va_get (D := (dC, dI)) (ci := 4) (v := .ref kO) (C := RX4) (T := TX4) (N := 13) hx hb hts iX4_turn_X4 hown hK hP 0 rfl rfl 2 (by decide) (hts _ qX4_turn_5) (fun _ h9 => h9) rfl dX4_turn_59 ?_
          refine lv_iload_n hx hb dX4_turn_62 rfl (lv_at hl 0 rfl) ?_
          obtain ⟨hPc, hDc, hFc⟩ := xP_K hP hD hS hA
          have hKc := hK.sub (tys' := [(cI, .int)]) [0] rfl
          refine va_calli (va_runV (As := [.int 4]) (rest := []) ⟨hx, hb, hml, hown, hts⟩ (k_X2_letPass l dC dI cI kO mS mA dS dA H.size (gPW_KW (sPW_P_cyc u ((gPW_P_cyc u) + (4 : Int32).toInt64))) 4) (cwV 1 hts gX4_turn_X2_letPass rfl rfl rfl (by decide +kernel) ⟨Nat.le_of_ble_eq_true rfl, Nat.le_of_ble_eq_true rfl⟩) ⟨fun a U g mk q => by obtain ⟨q0, q1, qP, qK, qD⟩ := q; exact ⟨q0, q1, qP, va_K.moved (u := U) (U := U.calling g mk a) (Vm.Alike.refl U.vm) qK, qD⟩, va_recv hKc hPc (ci := 2) (q0 := 0) rfl rfl, fun U hU hW => ⟨rfl, by rw [hU], by rw [hU]; exact hPc, va_K.moved hW.alike hKc, hDc.weaken (fun _ _ _ _ => trivial)⟩⟩ rfl rfl hl.1 rfl (lv_room (Nat.le_of_ble_eq_true rfl)) dX4_turn_63 ⟨Nat.le_of_ble_eq_true rfl, Nat.le_of_ble_eq_true rfl⟩) hS (fun q _ h => hFc q h) hFc (fun r9 u9 t H1 locs ht hvm hw hB hz1 hk1 hS => ?_)
          obtain ⟨rfl, rfl⟩ := hw
          obtain ⟨hP1, hK1, hD1⟩ := hB
          rw [ht] at hP1
          obtain ⟨hP, hD⟩ := jP_K hP hD hk1 hFc hP1 hD1
          clear hPc hDc hKc hFc hz1 hk1 hP1 hK1 hD1 ht hvm
          generalize H1 = H at hP hS ⊢
          refine lv_istore_n (lv' := [(2, .int (f_X2_letPass (gPW_KW (sPW_P_cyc u ((gPW_P_cyc u) + (4 : Int32).toInt64))) 4).1), (1, .int 4), (0, .ref pO)]) hx hb dX4_turn_66 rfl hl (by decide) rfl (fun ls hl => ?_)
          refine lv_iload_n hx hb dX4_turn_67 rfl (lv_at hl 0 rfl) ?_
          refine lv_iconst (v := (-1)) hx hb dX4_turn_68 (by decide) ?_
          refine lv_icmp_eq (tgt := 77) hx hb dX4_turn_69 (by decide) (fun c15 => ?_) (fun c15 => ?_)
          · skip
            refine lv_iload_n hx hb dX4_turn_77 rfl (lv_at hl 1 rfl) ?_
            exact W.iret (v := 4) hx hb hr (fun t ht hW => ⟨⟨4, (sPW_KW (sPW_P_cyc u ((gPW_P_cyc u) + (4 : Int32).toInt64)) (f_X2_letPass (gPW_KW (sPW_P_cyc u ((gPW_P_cyc u) + (4 : Int32).toInt64))) 4).2), rfl, ⟨(by simp only [f_X4_turn, if_neg c1, if_neg c6, if_neg c11, if_neg c12, if_pos c15]), (by simp only [f_X4_turn, if_neg c1, if_neg c6, if_neg c11, if_neg c12, if_pos c15])⟩, by rw [ht]; exact hP, va_K.moved hW.alike hK, hD⟩, hS.F ht⟩) hS.2.2 dX4_turn_78
          · skip
            refine lv_aload_n hx hb dX4_turn_72 rfl (lv_at hl 2 rfl) ?_
            refine lv_iload_n hx hb dX4_turn_73 rfl (lv_at hl 0 rfl) ?_
            refine va_put (D := (dC, dI)) (ci := 4) (v := .int (f_X2_letPass (gPW_KW (sPW_P_cyc u ((gPW_P_cyc u) + (4 : Int32).toInt64))) 4).1) (ty := .int) (C := RX4) (T := TX4) (N := 13) hx hb hts iX4_turn_X4 tyX4 tyX4_ok nmX4 hown hK hP hD hS 0 rfl rfl 11 (by decide) (hts _ qX4_turn_0) (fun _ h9 => h9) rfl (by decide +kernel) rfl rfl (Nat.le_of_ble_eq_true rfl) dX4_turn_74 (fun H locs hP hD hS => ?_)
            obtain ⟨hP, hD⟩ := pP_P_want hP hD
            refine lv_iload_n hx hb dX4_turn_77 rfl (lv_at hl 1 rfl) ?_
            exact W.iret (v := 4) hx hb hr (fun t ht hW => ⟨⟨4, (sPW_P_want (sPW_KW (sPW_P_cyc u ((gPW_P_cyc u) + (4 : Int32).toInt64)) (f_X2_letPass (gPW_KW (sPW_P_cyc u ((gPW_P_cyc u) + (4 : Int32).toInt64))) 4).2) (f_X2_letPass (gPW_KW (sPW_P_cyc u ((gPW_P_cyc u) + (4 : Int32).toInt64))) 4).1), rfl, ⟨(by simp only [f_X4_turn, if_neg c1, if_neg c6, if_neg c11, if_neg c12, if_neg c15]), (by simp only [f_X4_turn, if_neg c1, if_neg c6, if_neg c11, if_neg c12, if_neg c15])⟩, by rw [ht]; exact hP, va_K.moved hW.alike hK, hD⟩, hS.F ht⟩) hS.2.2 dX4_turn_78
      · skip
        refine lv_aload_n hx hb dX4_turn_22 rfl (lv_at hl 0 rfl) ?_
        obtain ⟨hPc, hDc, hFc⟩ := xP_P hP hD hS hA
        have hKc := hK.sub (tys' := [(cI, .int)]) [0] rfl
        refine va_calli (va_runV (As := []) (rest := []) ⟨hx, hb, hml, hown, hts⟩ (k_X4_answerInterrupt l dC dI cI pO mS mA dS dA cO iA oA kO fO aO rA H.size u) (cwV 0 hts gX4_turn_X4_answerInterrupt rfl rfl rfl (by decide +kernel) ⟨Nat.le_of_ble_eq_true rfl, Nat.le_of_ble_eq_true rfl⟩) ⟨fun a U g mk q => by obtain ⟨q0, q1, qP, qK, qD⟩ := q; exact ⟨q0, q1, qP, va_K.moved (u := U) (U := U.calling g mk a) (Vm.Alike.refl U.vm) qK, qD⟩, va_recv hKc hPc (ci := 4) (q0 := 0) rfl rfl, fun U hU hW => ⟨rfl, by rw [hU], by rw [hU]; exact hPc, va_K.moved hW.alike hKc, hDc.weaken (fun _ _ _ _ => trivial)⟩⟩ rfl rfl hl.1 rfl (lv_room (Nat.le_of_ble_eq_true rfl)) dX4_turn_23 ⟨Nat.le_of_ble_eq_true rfl, Nat.le_of_ble_eq_true rfl⟩) hS (fun q _ h => hFc q h) hFc (fun r9 u9 t H1 locs ht hvm hw hB hz1 hk1 hS => ?_)
        obtain ⟨rfl, rfl⟩ := hw
        obtain ⟨hP1, hK1, hD1⟩ := hB
        rw [ht] at hP1
        obtain ⟨hP, hD⟩ := jP_P hP hD hk1 hFc hP1 hD1
        clear hPc hDc hKc hFc hz1 hk1 hP1 hK1 hD1 ht hvm
        generalize H1 = H at hP hS ⊢
        refine lv_istore_n (lv' := [(1, .int (f_X4_answerInterrupt u).1), (0, .ref pO)]) hx hb dX4_turn_26 rfl hl (by decide) rfl (fun ls hl => ?_)
        refine lv_goto (tgt := 47) hx hb dX4_turn_27 (by decide) ?_
        refine lv_aload_n hx hb dX4_turn_47 rfl (lv_at hl 1 rfl) ?_
        refine lv_dup hx hb dX4_turn_48 rfl ?_
        refine va_get (D := (dC, dI)) (ci := 4) (v := .long (gPW_P_cyc (f_X4_answerInterrupt u).2)) (C := RX4) (T := TX4) (N := 13) hx hb hts iX4_turn_X4 hown hK hP 0 rfl rfl 12 (by decide) (hts _ qX4_turn_4) (fun _ h9 => h9) rfl dX4_turn_49 ?_
        refine lv_iload_n hx hb dX4_turn_52 rfl (lv_at hl 0 rfl) ?_
        refine lv_i2l (v := ((f_X4_answerInterrupt u).1 : Int32).toInt64) hx hb dX4_turn_53 rfl ?_
        refine lv_ladd hx hb dX4_turn_54 ?_
        refine va_put (D := (dC, dI)) (ci := 4) (v := .long ((gPW_P_cyc (f_X4_answerInterrupt u).2) + ((f_X4_answerInterrupt u).1 : Int32).toInt64)) (ty := .long) (C := RX4) (T := TX4) (N := 13) hx hb hts iX4_turn_X4 tyX4 tyX4_ok nmX4 hown hK hP hD hS 0 rfl rfl 12 (by decide) (hts _ qX4_turn_4) (fun _ h9 => h9) rfl (by decide +kernel) rfl rfl (Nat.le_of_ble_eq_true rfl) dX4_turn_55 (fun H locs hP hD hS => ?_)
        obtain ⟨hP, hD⟩ := pP_P_cyc hP hD
        refine lv_aload_n hx hb dX4_turn_58 rfl (lv_at hl 1 rfl) ?_
        refine va_get (D := (dC, dI)) (ci := 4) (v := .ref kO) (C := RX4) (T := TX4) (N := 13) hx hb hts iX4_turn_X4 hown hK hP 0 rfl rfl 2 (by decide) (hts _ qX4_turn_5) (fun _ h9 => h9) rfl dX4_turn_59 ?_
        refine lv_iload_n hx hb dX4_turn_62 rfl (lv_at hl 0 rfl) ?_
        obtain ⟨hPc, hDc, hFc⟩ := xP_K hP hD hS hA
        have hKc := hK.sub (tys' := [(cI, .int)]) [0] rfl
        refine va_calli (va_runV (As := [.int (f_X4_answerInterrupt u).1]) (rest := []) ⟨hx, hb, hml, hown, hts⟩ (k_X2_letPass l dC dI cI kO mS mA dS dA H.size (gPW_KW (sPW_P_cyc (f_X4_answerInterrupt u).2 ((gPW_P_cyc (f_X4_answerInterrupt u).2) + ((f_X4_answerInterrupt u).1 : Int32).toInt64))) (f_X4_answerInterrupt u).1) (cwV 1 hts gX4_turn_X2_letPass rfl rfl rfl (by decide +kernel) ⟨Nat.le_of_ble_eq_true rfl, Nat.le_of_ble_eq_true rfl⟩) ⟨fun a U g mk q => by obtain ⟨q0, q1, qP, qK, qD⟩ := q; exact ⟨q0, q1, qP, va_K.moved (u := U) (U := U.calling g mk a) (Vm.Alike.refl U.vm) qK, qD⟩, va_recv hKc hPc (ci := 2) (q0 := 0) rfl rfl, fun U hU hW => ⟨rfl, by rw [hU], by rw [hU]; exact hPc, va_K.moved hW.alike hKc, hDc.weaken (fun _ _ _ _ => trivial)⟩⟩ rfl rfl hl.1 rfl (lv_room (Nat.le_of_ble_eq_true rfl)) dX4_turn_63 ⟨Nat.le_of_ble_eq_true rfl, Nat.le_of_ble_eq_true rfl⟩) hS (fun q _ h => hFc q h) hFc (fun r9 u9 t H1 locs ht hvm hw hB hz1 hk1 hS => ?_)
        obtain ⟨rfl, rfl⟩ := hw
        obtain ⟨hP1, hK1, hD1⟩ := hB
        rw [ht] at hP1
        obtain ⟨hP, hD⟩ := jP_K hP hD hk1 hFc hP1 hD1
        clear hPc hDc hKc hFc hz1 hk1 hP1 hK1 hD1 ht hvm
        generalize H1 = H at hP hS ⊢
        refine lv_topi (fun y16 ey16 => ?_)
        refine lv_istore_n (lv' := [(2, .int y16), (1, .int (f_X4_answerInterrupt u).1), (0, .ref pO)]) hx hb dX4_turn_66 rfl hl (by decide) rfl (fun ls hl => ?_)
        refine lv_iload_n hx hb dX4_turn_67 rfl (lv_at hl 0 rfl) ?_
        refine lv_iconst (v := (-1)) hx hb dX4_turn_68 (by decide) ?_
        refine lv_icmp_eq (tgt := 77) hx hb dX4_turn_69 (by decide) (fun c17 => ?_) (fun c17 => ?_)
        · skip
          refine lv_iload_n hx hb dX4_turn_77 rfl (lv_at hl 1 rfl) ?_
          exact W.iret (v := (f_X4_answerInterrupt u).1) hx hb hr (fun t ht hW => ⟨⟨(f_X4_answerInterrupt u).1, (sPW_KW (sPW_P_cyc (f_X4_answerInterrupt u).2 ((gPW_P_cyc (f_X4_answerInterrupt u).2) + ((f_X4_answerInterrupt u).1 : Int32).toInt64)) (f_X2_letPass (gPW_KW (sPW_P_cyc (f_X4_answerInterrupt u).2 ((gPW_P_cyc (f_X4_answerInterrupt u).2) + ((f_X4_answerInterrupt u).1 : Int32).toInt64))) (f_X4_answerInterrupt u).1).2), rfl, ⟨(by subst ey16; simp only [f_X4_turn, if_neg c1, if_neg c6, if_pos c11, if_pos c17]), (by subst ey16; simp only [f_X4_turn, if_neg c1, if_neg c6, if_pos c11, if_pos c17])⟩, by rw [ht]; exact hP, va_K.moved hW.alike hK, hD⟩, hS.F ht⟩) hS.2.2 dX4_turn_78
        · skip
          refine lv_aload_n hx hb dX4_turn_72 rfl (lv_at hl 2 rfl) ?_
          refine lv_iload_n hx hb dX4_turn_73 rfl (lv_at hl 0 rfl) ?_
          refine va_put (D := (dC, dI)) (ci := 4) (v := .int y16) (ty := .int) (C := RX4) (T := TX4) (N := 13) hx hb hts iX4_turn_X4 tyX4 tyX4_ok nmX4 hown hK hP hD hS 0 rfl rfl 11 (by decide) (hts _ qX4_turn_0) (fun _ h9 => h9) rfl (by decide +kernel) rfl rfl (Nat.le_of_ble_eq_true rfl) dX4_turn_74 (fun H locs hP hD hS => ?_)
          obtain ⟨hP, hD⟩ := pP_P_want hP hD
          refine lv_iload_n hx hb dX4_turn_77 rfl (lv_at hl 1 rfl) ?_
          exact W.iret (v := (f_X4_answerInterrupt u).1) hx hb hr (fun t ht hW => ⟨⟨(f_X4_answerInterrupt u).1, (sPW_P_want (sPW_KW (sPW_P_cyc (f_X4_answerInterrupt u).2 ((gPW_P_cyc (f_X4_answerInterrupt u).2) + ((f_X4_answerInterrupt u).1 : Int32).toInt64)) (f_X2_letPass (gPW_KW (sPW_P_cyc (f_X4_answerInterrupt u).2 ((gPW_P_cyc (f_X4_answerInterrupt u).2) + ((f_X4_answerInterrupt u).1 : Int32).toInt64))) (f_X4_answerInterrupt u).1).2) y16), rfl, ⟨(by subst ey16; simp only [f_X4_turn, if_neg c1, if_neg c6, if_pos c11, if_neg c17]), (by subst ey16; simp only [f_X4_turn, if_neg c1, if_neg c6, if_pos c11, if_neg c17])⟩, by rw [ht]; exact hP, va_K.moved hW.alike hK, hD⟩, hS.F ht⟩) hS.2.2 dX4_turn_78
