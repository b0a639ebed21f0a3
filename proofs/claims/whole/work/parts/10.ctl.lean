def f_X2_setSector (u : KW) (a1 : Int32) : KW := (sKW_K_sec u a1)
theorem qX2_setSector_0 : Cond.fieldLink RX2 18 "DiskMachine$Controller" "sector" "I" ∈ wsX2_setSector := by decide +kernel
theorem iX2_setSector_X2 : ∀ w ∈ wsX20, w ∈ wsX2_setSector := by decide +kernel
set_option maxHeartbeats 4000000 in
set_option maxRecDepth 100000 in
theorem k_X2_setSector (l : Launch) (dC : Nat → ClassId) (dI : Nat → Nat → Nat) (cI : ClassId) (kO mS mA dS dA : Nat) (sz : Nat) (u : KW) (a1 : Int32) : Met l yX2_setSector wsX2_setSector ({ frames := 0, cells := 0, slots := 0, locals := 0 }) (va_Pc [.ref kO, .int a1] (wB dC dI [(cI, .int)] sz (wK cI kO mS mA dS dA u))) (va_Qv (fun u' : KW => u' = (f_X2_setSector u a1)) (fun u' => wE dC dI [(cI, .int)] (va_A (wK cI kO mS mA dS dA u) sz) (wK cI kO mS mA dS dA u')) (va_A (wK cI kO mS mA dS dA u) sz)) 0 0 (va_A (wK cI kO mS mA dS dA u) sz) := by
  refine Met.ofW (cc := cX2_setSector) (maxL := 2) (ret := none) (by decide) rfl ?_
  intro p e s m args below meth c s₁ B hml hv
  obtain ⟨rfl, hsz, hP, hK, hD0⟩ := hv
  have hx := B.exec
  have hb := B.bytes
  have hr := B.returns
  have hts := atoms_spec (ws := wsX2_setSector) B.pre
  have hown : s.vm.findClass RX2 = some m.cls := findClass_of_methodNamed B.named
  have hlocks := B.notSynchronized
  subst hsz
  have hD := hD0.self (sz := s.heap.size)
  generalize hAe : va_A (wK cI kO mS mA dS dA u) s.heap.size = A at hD ⊢
  have hA : ∀ q : Nat, s.heap.size ≤ q → A q := fun q h => by rw [← hAe]; exact Or.inr h
  have hS : va_S A s.heap s.heap [] := va_S.rf
  have hP : va_P (dC, dI) vwCl (wK cI kO mS mA dS dA u) s.heap := hP
  clear hAe hD0
  have hl := lv_entry ([.ref kO, .int a1]) (n := 2) (Nat.le_of_ble_eq_true rfl)
  rw [lg_entry_eq]
  generalize (lg_sl ([.ref kO, .int a1]) ++ List.replicate (2 - (lg_sl ([.ref kO, .int a1])).length) Slot.unset).toArray = ls at hl ⊢
  have hl : lv_has ls 2 [(0, .ref kO), (1, .int a1)] := hl
  refine jn_H hP hS (fun H locs hP hS => ?_)
  refine lv_aload_n hx hb dX2_setSector_0 rfl (lv_at hl 0 rfl) ?_
  refine lv_iload_n hx hb dX2_setSector_1 rfl (lv_at hl 1 rfl) ?_
  refine va_put (D := (dC, dI)) (ci := 2) (v := .int a1) (ty := .int) (C := RX2) (T := TX2) (N := 11) hx hb hts iX2_setSector_X2 tyX2 tyX2_ok nmX2 hown hK hP hD hS 0 rfl rfl 2 (by decide) (hts _ qX2_setSector_0) (fun _ h9 => h9) rfl (by decide +kernel) rfl rfl (Nat.le_of_ble_eq_true rfl) dX2_setSector_2 (fun H locs hP hD hS => ?_)
  obtain ⟨hP, hD⟩ := pK_K_sec hP hD
  exact W.vret hx hb hr (fun t ht hW => ⟨⟨(sKW_K_sec u a1), rfl, rfl, by rw [ht]; exact hP, va_K.moved hW.alike hK, hD⟩, hS.F ht⟩) hS.2.2 dX2_setSector_5

def f_X2_setLowAddress (u : KW) (a1 : Int32) : KW := (sKW_K_adr u (((gKW_K_adr u) &&& (65280 : Int32)) ||| a1))
theorem qX2_setLowAddress_0 : Cond.fieldLink RX2 22 "DiskMachine$Controller" "address" "I" ∈ wsX2_setLowAddress := by decide +kernel
theorem qX2_setLowAddress_1 : Cond.constant RX2 25 (65280) ∈ wsX2_setLowAddress := by decide +kernel
theorem iX2_setLowAddress_X2 : ∀ w ∈ wsX20, w ∈ wsX2_setLowAddress := by decide +kernel
set_option maxHeartbeats 4000000 in
set_option maxRecDepth 100000 in
theorem k_X2_setLowAddress (l : Launch) (dC : Nat → ClassId) (dI : Nat → Nat → Nat) (cI : ClassId) (kO mS mA dS dA : Nat) (sz : Nat) (u : KW) (a1 : Int32) : Met l yX2_setLowAddress wsX2_setLowAddress ({ frames := 0, cells := 0, slots := 0, locals := 0 }) (va_Pc [.ref kO, .int a1] (wB dC dI [(cI, .int)] sz (wK cI kO mS mA dS dA u))) (va_Qv (fun u' : KW => u' = (f_X2_setLowAddress u a1)) (fun u' => wE dC dI [(cI, .int)] (va_A (wK cI kO mS mA dS dA u) sz) (wK cI kO mS mA dS dA u')) (va_A (wK cI kO mS mA dS dA u) sz)) 0 0 (va_A (wK cI kO mS mA dS dA u) sz) := by
  refine Met.ofW (cc := cX2_setLowAddress) (maxL := 2) (ret := none) (by decide) rfl ?_
  intro p e s m args below meth c s₁ B hml hv
  obtain ⟨rfl, hsz, hP, hK, hD0⟩ := hv
  have hx := B.exec
  have hb := B.bytes
  have hr := B.returns
  have hts := atoms_spec (ws := wsX2_setLowAddress) B.pre
  have hown : s.vm.findClass RX2 = some m.cls := findClass_of_methodNamed B.named
  have hlocks := B.notSynchronized
  subst hsz
  have hD := hD0.self (sz := s.heap.size)
  generalize hAe : va_A (wK cI kO mS mA dS dA u) s.heap.size = A at hD ⊢
  have hA : ∀ q : Nat, s.heap.size ≤ q → A q := fun q h => by rw [← hAe]; exact Or.inr h
  have hS : va_S A s.heap s.heap [] := va_S.rf
  have hP : va_P (dC, dI) vwCl (wK cI kO mS mA dS dA u) s.heap := hP
  clear hAe hD0
  have hl := lv_entry ([.ref kO, .int a1]) (n := 2) (Nat.le_of_ble_eq_true rfl)
  rw [lg_entry_eq]
  generalize (lg_sl ([.ref kO, .int a1]) ++ List.replicate (2 - (lg_sl ([.ref kO, .int a1])).length) Slot.unset).toArray = ls at hl ⊢
  have hl : lv_has ls 2 [(0, .ref kO), (1, .int a1)] := hl
  refine jn_H hP hS (fun H locs hP hS => ?_)
  refine lv_aload_n hx hb dX2_setLowAddress_0 rfl (lv_at hl 0 rfl) ?_
  refine lv_aload_n hx hb dX2_setLowAddress_1 rfl (lv_at hl 0 rfl) ?_
  refine va_get (D := (dC, dI)) (ci := 2) (v := .int (gKW_K_adr u)) (C := RX2) (T := TX2) (N := 11) hx hb hts iX2_setLowAddress_X2 hown hK hP 0 rfl rfl 3 (by decide) (hts _ qX2_setLowAddress_0) (fun _ h9 => h9) rfl dX2_setLowAddress_2 ?_
  refine lv_ldc (v := 65280) hx hb hown (hts _ qX2_setLowAddress_1) dX2_setLowAddress_5 ?_
  refine lv_iand hx hb dX2_setLowAddress_7 ?_
  refine lv_iload_n hx hb dX2_setLowAddress_8 rfl (lv_at hl 1 rfl) ?_
  refine lv_ior hx hb dX2_setLowAddress_9 ?_
  refine va_put (D := (dC, dI)) (ci := 2) (v := .int (((gKW_K_adr u) &&& (65280 : Int32)) ||| a1)) (ty := .int) (C := RX2) (T := TX2) (N := 11) hx hb hts iX2_setLowAddress_X2 tyX2 tyX2_ok nmX2 hown hK hP hD hS 0 rfl rfl 3 (by decide) (hts _ qX2_setLowAddress_0) (fun _ h9 => h9) rfl (by decide +kernel) rfl rfl (Nat.le_of_ble_eq_true rfl) dX2_setLowAddress_10 (fun H locs hP hD hS => ?_)
  obtain ⟨hP, hD⟩ := pK_K_adr hP hD
  exact W.vret hx hb hr (fun t ht hW => ⟨⟨(sKW_K_adr u (((gKW_K_adr u) &&& (65280 : Int32)) ||| a1)), rfl, rfl, by rw [ht]; exact hP, va_K.moved hW.alike hK, hD⟩, hS.F ht⟩) hS.2.2 dX2_setLowAddress_13

def f_X2_setHighAddress (u : KW) (a1 : Int32) : KW := (sKW_K_adr u (((gKW_K_adr u) &&& (255 : Int32)) ||| (a1 <<< ((8 : Int32) &&& 31))))
theorem qX2_setHighAddress_0 : Cond.fieldLink RX2 22 "DiskMachine$Controller" "address" "I" ∈ wsX2_setHighAddress := by decide +kernel
theorem iX2_setHighAddress_X2 : ∀ w ∈ wsX20, w ∈ wsX2_setHighAddress := by decide +kernel
set_option maxHeartbeats 4000000 in
set_option maxRecDepth 100000 in
theorem k_X2_setHighAddress (l : Launch) (dC : Nat → ClassId) (dI : Nat → Nat → Nat) (cI : ClassId) (kO mS mA dS dA : Nat) (sz : Nat) (u : KW) (a1 : Int32) : Met l yX2_setHighAddress wsX2_setHighAddress ({ frames := 0, cells := 0, slots := 0, locals := 0 }) (va_Pc [.ref kO, .int a1] (wB dC dI [(cI, .int)] sz (wK cI kO mS mA dS dA u))) (va_Qv (fun u' : KW => u' = (f_X2_setHighAddress u a1)) (fun u' => wE dC dI [(cI, .int)] (va_A (wK cI kO mS mA dS dA u) sz) (wK cI kO mS mA dS dA u')) (va_A (wK cI kO mS mA dS dA u) sz)) 0 0 (va_A (wK cI kO mS mA dS dA u) sz) := by
  refine Met.ofW (cc := cX2_setHighAddress) (maxL := 2) (ret := none) (by decide) rfl ?_
  intro p e s m args below meth c s₁ B hml hv
  obtain ⟨rfl, hsz, hP, hK, hD0⟩ := hv
  have hx := B.exec
  have hb := B.bytes
  have hr := B.returns
  have hts := atoms_spec (ws := wsX2_setHighAddress) B.pre
  have hown : s.vm.findClass RX2 = some m.cls := findClass_of_methodNamed B.named
  have hlocks := B.notSynchronized
  subst hsz
  have hD := hD0.self (sz := s.heap.size)
  generalize hAe : va_A (wK cI kO mS mA dS dA u) s.heap.size = A at hD ⊢
  have hA : ∀ q : Nat, s.heap.size ≤ q → A q := fun q h => by rw [← hAe]; exact Or.inr h
  have hS : va_S A s.heap s.heap [] := va_S.rf
  have hP : va_P (dC, dI) vwCl (wK cI kO mS mA dS dA u) s.heap := hP
  clear hAe hD0
  have hl := lv_entry ([.ref kO, .int a1]) (n := 2) (Nat.le_of_ble_eq_true rfl)
  rw [lg_entry_eq]
  generalize (lg_sl ([.ref kO, .int a1]) ++ List.replicate (2 - (lg_sl ([.ref kO, .int a1])).length) Slot.unset).toArray = ls at hl ⊢
  have hl : lv_has ls 2 [(0, .ref kO), (1, .int a1)] := hl
  refine jn_H hP hS (fun H locs hP hS => ?_)
  refine lv_aload_n hx hb dX2_setHighAddress_0 rfl (lv_at hl 0 rfl) ?_
  refine lv_aload_n hx hb dX2_setHighAddress_1 rfl (lv_at hl 0 rfl) ?_
  refine va_get (D := (dC, dI)) (ci := 2) (v := .int (gKW_K_adr u)) (C := RX2) (T := TX2) (N := 11) hx hb hts iX2_setHighAddress_X2 hown hK hP 0 rfl rfl 3 (by decide) (hts _ qX2_setHighAddress_0) (fun _ h9 => h9) rfl dX2_setHighAddress_2 ?_
  refine lv_sipush (v := 255) hx hb dX2_setHighAddress_5 (by decide) ?_
  refine lv_iand hx hb dX2_setHighAddress_8 ?_
  refine lv_iload_n hx hb dX2_setHighAddress_9 rfl (lv_at hl 1 rfl) ?_
  refine lv_bipush (v := 8) hx hb dX2_setHighAddress_10 (by decide) ?_
  refine lv_ishl hx hb dX2_setHighAddress_12 ?_
  refine lv_ior hx hb dX2_setHighAddress_13 ?_
  refine va_put (D := (dC, dI)) (ci := 2) (v := .int (((gKW_K_adr u) &&& (255 : Int32)) ||| (a1 <<< ((8 : Int32) &&& 31)))) (ty := .int) (C := RX2) (T := TX2) (N := 11) hx hb hts iX2_setHighAddress_X2 tyX2 tyX2_ok nmX2 hown hK hP hD hS 0 rfl rfl 3 (by decide) (hts _ qX2_setHighAddress_0) (fun _ h9 => h9) rfl (by decide +kernel) rfl rfl (Nat.le_of_ble_eq_true rfl) dX2_setHighAddress_14 (fun H locs hP hD hS => ?_)
  obtain ⟨hP, hD⟩ := pK_K_adr hP hD
  exact W.vret hx hb hr (fun t ht hW => ⟨⟨(sKW_K_adr u (((gKW_K_adr u) &&& (255 : Int32)) ||| (a1 <<< ((8 : Int32) &&& 31)))), rfl, rfl, by rw [ht]; exact hP, va_K.moved hW.alike hK, hD⟩, hS.F ht⟩) hS.2.2 dX2_setHighAddress_17

def f_X2_setCall (u : KW) (a1 : Int32) : KW := (sKW_K_call u a1)
theorem qX2_setCall_0 : Cond.fieldLink RX2 26 "DiskMachine$Controller" "call" "I" ∈ wsX2_setCall := by decide +kernel
theorem iX2_setCall_X2 : ∀ w ∈ wsX20, w ∈ wsX2_setCall := by decide +kernel
set_option maxHeartbeats 4000000 in
set_option maxRecDepth 100000 in
theorem k_X2_setCall (l : Launch) (dC : Nat → ClassId) (dI : Nat → Nat → Nat) (cI : ClassId) (kO mS mA dS dA : Nat) (sz : Nat) (u : KW) (a1 : Int32) : Met l yX2_setCall wsX2_setCall ({ frames := 0, cells := 0, slots := 0, locals := 0 }) (va_Pc [.ref kO, .int a1] (wB dC dI [(cI, .int)] sz (wK cI kO mS mA dS dA u))) (va_Qv (fun u' : KW => u' = (f_X2_setCall u a1)) (fun u' => wE dC dI [(cI, .int)] (va_A (wK cI kO mS mA dS dA u) sz) (wK cI kO mS mA dS dA u')) (va_A (wK cI kO mS mA dS dA u) sz)) 0 0 (va_A (wK cI kO mS mA dS dA u) sz) := by
  refine Met.ofW (cc := cX2_setCall) (maxL := 2) (ret := none) (by decide) rfl ?_
  intro p e s m args below meth c s₁ B hml hv
  obtain ⟨rfl, hsz, hP, hK, hD0⟩ := hv
  have hx := B.exec
  have hb := B.bytes
  have hr := B.returns
  have hts := atoms_spec (ws := wsX2_setCall) B.pre
  have hown : s.vm.findClass RX2 = some m.cls := findClass_of_methodNamed B.named
  have hlocks := B.notSynchronized
  subst hsz
  have hD := hD0.self (sz := s.heap.size)
  generalize hAe : va_A (wK cI kO mS mA dS dA u) s.heap.size = A at hD ⊢
  have hA : ∀ q : Nat, s.heap.size ≤ q → A q := fun q h => by rw [← hAe]; exact Or.inr h
  have hS : va_S A s.heap s.heap [] := va_S.rf
  have hP : va_P (dC, dI) vwCl (wK cI kO mS mA dS dA u) s.heap := hP
  clear hAe hD0
  have hl := lv_entry ([.ref kO, .int a1]) (n := 2) (Nat.le_of_ble_eq_true rfl)
  rw [lg_entry_eq]
  generalize (lg_sl ([.ref kO, .int a1]) ++ List.replicate (2 - (lg_sl ([.ref kO, .int a1])).length) Slot.unset).toArray = ls at hl ⊢
  have hl : lv_has ls 2 [(0, .ref kO), (1, .int a1)] := hl
  refine jn_H hP hS (fun H locs hP hS => ?_)
  refine lv_aload_n hx hb dX2_setCall_0 rfl (lv_at hl 0 rfl) ?_
  refine lv_iload_n hx hb dX2_setCall_1 rfl (lv_at hl 1 rfl) ?_
  refine va_put (D := (dC, dI)) (ci := 2) (v := .int a1) (ty := .int) (C := RX2) (T := TX2) (N := 11) hx hb hts iX2_setCall_X2 tyX2 tyX2_ok nmX2 hown hK hP hD hS 0 rfl rfl 4 (by decide) (hts _ qX2_setCall_0) (fun _ h9 => h9) rfl (by decide +kernel) rfl rfl (Nat.le_of_ble_eq_true rfl) dX2_setCall_2 (fun H locs hP hD hS => ?_)
  obtain ⟨hP, hD⟩ := pK_K_call hP hD
  exact W.vret hx hb hr (fun t ht hW => ⟨⟨(sKW_K_call u a1), rfl, rfl, by rw [ht]; exact hP, va_K.moved hW.alike hK, hD⟩, hS.F ht⟩) hS.2.2 dX2_setCall_5

def f_X2_isBusy (u : KW) : Bool := (if ((gKW_K_st u) &&& (1 : Int32)) = (0 : Int32) then false else true : Bool)
theorem qX2_isBusy_0 : Cond.fieldLink RX2 33 "DiskMachine$Controller" "state" "I" ∈ wsX2_isBusy := by decide +kernel
theorem iX2_isBusy_X2 : ∀ w ∈ wsX20, w ∈ wsX2_isBusy := by decide +kernel
set_option maxHeartbeats 4000000 in
set_option maxRecDepth 100000 in
theorem k_X2_isBusy (l : Launch) (dC : Nat → ClassId) (dI : Nat → Nat → Nat) (cI : ClassId) (kO mS mA dS dA : Nat) (sz : Nat) (u : KW) : Met l yX2_isBusy wsX2_isBusy ({ frames := 0, cells := 0, slots := 0, locals := 0 }) (va_Pc [.ref kO] (wB dC dI [(cI, .int)] sz (wK cI kO mS mA dS dA u))) (va_Qi (fun (r : Int32) (u' : KW) => r = (bI (f_X2_isBusy u)) ∧ u' = u) (fun u' => wE dC dI [(cI, .int)] (va_A (wK cI kO mS mA dS dA u) sz) (wK cI kO mS mA dS dA u')) (va_A (wK cI kO mS mA dS dA u) sz)) 0 0 (va_A (wK cI kO mS mA dS dA u) sz) := by
  refine Met.ofW (cc := cX2_isBusy) (maxL := 1) (ret := (some .boolean)) (by decide) rfl ?_
  intro p e s m args below meth c s₁ B hml hv
  obtain ⟨rfl, hsz, hP, hK, hD0⟩ := hv
  have hx := B.exec
  have hb := B.bytes
  have hr := B.returns
  have hts := atoms_spec (ws := wsX2_isBusy) B.pre
  have hown : s.vm.findClass RX2 = some m.cls := findClass_of_methodNamed B.named
  have hlocks := B.notSynchronized
  subst hsz
  have hD := hD0.self (sz := s.heap.size)
  generalize hAe : va_A (wK cI kO mS mA dS dA u) s.heap.size = A at hD ⊢
  have hA : ∀ q : Nat, s.heap.size ≤ q → A q := fun q h => by rw [← hAe]; exact Or.inr h
  have hS : va_S A s.heap s.heap [] := va_S.rf
  have hP : va_P (dC, dI) vwCl (wK cI kO mS mA dS dA u) s.heap := hP
  clear hAe hD0
  have hl := lv_entry ([.ref kO]) (n := 1) (Nat.le_of_ble_eq_true rfl)
  rw [lg_entry_eq]
  generalize (lg_sl ([.ref kO]) ++ List.replicate (1 - (lg_sl ([.ref kO])).length) Slot.unset).toArray = ls at hl ⊢
  have hl : lv_has ls 1 [(0, .ref kO)] := hl
  refine jn_H hP hS (fun H locs hP hS => ?_)
  refine lv_aload_n hx hb dX2_isBusy_0 rfl (lv_at hl 0 rfl) ?_
  refine va_get (D := (dC, dI)) (ci := 2) (v := .int (gKW_K_st u)) (C := RX2) (T := TX2) (N := 11) hx hb hts iX2_isBusy_X2 hown hK hP 0 rfl rfl 5 (by decide) (hts _ qX2_isBusy_0) (fun _ h9 => h9) rfl dX2_isBusy_1 ?_
  refine lv_iconst (v := 1) hx hb dX2_isBusy_4 (by decide) ?_
  refine lv_iand hx hb dX2_isBusy_5 ?_
  refine jn_b (D := (dC, dI)) (cl := vwCl) (ws := (wK cI kO mS mA dS dA u)) (A := A) (H0 := s.heap) (nL := 1) 14 (if ((gKW_K_st u) &&& (1 : Int32)) = (0 : Int32) then false else true : Bool) [(0, .ref kO)] [] (fun H locs ls hP hS hl => ?_) (fun hJ1 => ?_)
  · skip
    exact W.zret (v := (bI (if ((gKW_K_st u) &&& (1 : Int32)) = (0 : Int32) then false else true : Bool))) hx hb hr (bI_nar (if ((gKW_K_st u) &&& (1 : Int32)) = (0 : Int32) then false else true : Bool)) (fun t ht hW => ⟨⟨(bI (if ((gKW_K_st u) &&& (1 : Int32)) = (0 : Int32) then false else true : Bool)), u, rfl, ⟨rfl, rfl⟩, by rw [ht]; exact hP, va_K.moved hW.alike hK, hD⟩, hS.F ht⟩) hS.2.2 dX2_isBusy_14
  · skip
    refine lv_if_eq (tgt := 13) hx hb dX2_isBusy_6 (by decide) (fun c2 => ?_) (fun c2 => ?_)
    · skip
      refine lv_iconst (v := 0) hx hb dX2_isBusy_13 (by decide) ?_
      exact hJ1 false _ _ _ (by simp only [if_pos c2]) hP hS (lv_sub hl [0] rfl)
    · skip
      refine lv_iconst (v := 1) hx hb dX2_isBusy_9 (by decide) ?_
      refine lv_goto (tgt := 14) hx hb dX2_isBusy_10 (by decide) ?_
      exact hJ1 true _ _ _ (by simp only [if_neg c2]) hP hS (lv_sub hl [0] rfl)

def f_X2_command (u : KW) (a1 : Int32) : KW := 
  if (bI (f_X2_isBusy u)) = (0 : Int32) then 
    if (bI (if a1 = (1 : Int32) then true else (if a1 = (2 : Int32) then true else false : Bool) : Bool)) = (0 : Int32) then (sKW_K_st u ((gKW_K_st u) ||| (4 : Int32)))
    else 
      if (gKW_K_sec u) < (64 : Int32) then (sKW_K_just (sKW_K_left (sKW_K_mov (sKW_K_toD (sKW_K_start (sKW_K_st u ((gKW_K_st u) ||| (1 : Int32))) ((gKW_K_sec (sKW_K_st u ((gKW_K_st u) ||| (1 : Int32)))) * (64 : Int32))) (if a1 = (2 : Int32) then true else false : Bool)) 0) 0) true)
      else (sKW_K_st u ((gKW_K_st u) ||| (4 : Int32)))
  else (sKW_K_st u ((gKW_K_st u) ||| (4 : Int32)))
theorem qX2_command_0 : Cond.fieldLink RX2 33 "DiskMachine$Controller" "state" "I" ∈ wsX2_command := by decide +kernel
theorem qX2_command_1 : Cond.fieldLink RX2 18 "DiskMachine$Controller" "sector" "I" ∈ wsX2_command := by decide +kernel
theorem qX2_command_2 : Cond.fieldLink RX2 36 "DiskMachine$Controller" "diskStart" "I" ∈ wsX2_command := by decide +kernel
theorem qX2_command_3 : Cond.fieldLink RX2 39 "DiskMachine$Controller" "toDisk" "Z" ∈ wsX2_command := by decide +kernel
theorem qX2_command_4 : Cond.fieldLink RX2 43 "DiskMachine$Controller" "moved" "I" ∈ wsX2_command := by decide +kernel
theorem qX2_command_5 : Cond.fieldLink RX2 46 "DiskMachine$Controller" "cyclesLeftOver" "I" ∈ wsX2_command := by decide +kernel
theorem qX2_command_6 : Cond.fieldLink RX2 49 "DiskMachine$Controller" "commandJustCame" "Z" ∈ wsX2_command := by decide +kernel
theorem iX2_command_X2 : ∀ w ∈ wsX20, w ∈ wsX2_command := by decide +kernel
set_option maxHeartbeats 4000000 in
set_option maxRecDepth 100000 in
theorem k_X2_command (l : Launch) (dC : Nat → ClassId) (dI : Nat → Nat → Nat) (cI : ClassId) (kO mS mA dS dA : Nat) (sz : Nat) (u : KW) (a1 : Int32) : Met l yX2_command wsX2_command ({ frames := 1, cells := 0, slots := 0, locals := 20 }) (va_Pc [.ref kO, .int a1] (wB dC dI [(cI, .int)] sz (wK cI kO mS mA dS dA u))) (va_Qv (fun u' : KW => u' = (f_X2_command u a1)) (fun u' => wE dC dI [(cI, .int)] (va_A (wK cI kO mS mA dS dA u) sz) (wK cI kO mS mA dS dA u')) (va_A (wK cI kO mS mA dS dA u) sz)) 0 0 (va_A (wK cI kO mS mA dS dA u) sz) := by
  refine Met.ofW (cc := cX2_command) (maxL := 3) (ret := none) (by decide) rfl ?_
  intro p e s m args below meth c s₁ B hml hv
  obtain ⟨rfl, hsz, hP, hK, hD0⟩ := hv
  have hx := B.exec
  have hb := B.bytes
  have hr := B.returns
  have hts := atoms_spec (ws := wsX2_command) B.pre
  have hown : s.vm.findClass RX2 = some m.cls := findClass_of_methodNamed B.named
  have hlocks := B.notSynchronized
  subst hsz
  have hD := hD0.self (sz := s.heap.size)
  generalize hAe : va_A (wK cI kO mS mA dS dA u) s.heap.size = A at hD ⊢
  have hA : ∀ q : Nat, s.heap.size ≤ q → A q := fun q h => by rw [← hAe]; exact Or.inr h
  have hS : va_S A s.heap s.heap [] := va_S.rf
  have hP : va_P (dC, dI) vwCl (wK cI kO mS mA dS dA u) s.heap := hP
  clear hAe hD0
  have hl := lv_entry ([.ref kO, .int a1]) (n := 3) (Nat.le_of_ble_eq_true rfl)
  rw [lg_entry_eq]
  generalize (lg_sl ([.ref kO, .int a1]) ++ List.replicate (3 - (lg_sl ([.ref kO, .int a1])).length) Slot.unset).toArray = ls at hl ⊢
  have hl : lv_has ls 3 [(0, .ref kO), (1, .int a1)] := hl
  refine jn_H hP hS (fun H locs hP hS => ?_)
  refine lv_iload_n hx hb dX2_command_0 rfl (lv_at hl 1 rfl) ?_
  refine lv_iconst (v := 1) hx hb dX2_command_1 (by decide) ?_
  refine jn_b (D := (dC, dI)) (cl := vwCl) (ws := (wK cI kO mS mA dS dA u)) (A := A) (H0 := s.heap) (nL := 3) 15 (if a1 = (1 : Int32) then true else (if a1 = (2 : Int32) then true else false : Bool) : Bool) [(0, .ref kO), (1, .int a1)] [] (fun H locs ls hP hS hl => ?_) (fun hJ1 => ?_)
  · skip
    refine lv_istore_n (lv' := [(2, .int (bI (if a1 = (1 : Int32) then true else (if a1 = (2 : Int32) then true else false : Bool) : Bool))), (0, .ref kO), (1, .int a1)]) hx hb dX2_command_15 rfl hl (by decide) rfl (fun ls hl => ?_)
    refine lv_aload_n hx hb dX2_command_16 rfl (lv_at hl 1 rfl) ?_
    obtain ⟨hPc, hDc, hFc⟩ := xK_K hP hD hS hA
    have hKc := hK.sub (tys' := [(cI, .int)]) [0] rfl
    refine va_calli (va_runV (As := []) (rest := []) ⟨hx, hb, hml, hown, hts⟩ (k_X2_isBusy l dC dI cI kO mS mA dS dA H.size u) (cwV 0 hts gX2_command_X2_isBusy rfl rfl rfl (by decide +kernel) ⟨Nat.le_of_ble_eq_true rfl, Nat.le_of_ble_eq_true rfl⟩) ⟨fun a U g mk q => by obtain ⟨q0, q1, qP, qK, qD⟩ := q; exact ⟨q0, q1, qP, va_K.moved (u := U) (U := U.calling g mk a) (Vm.Alike.refl U.vm) qK, qD⟩, va_recv hKc hPc (ci := 2) (q0 := 0) rfl rfl, fun U hU hW => ⟨rfl, by rw [hU], by rw [hU]; exact hPc, va_K.moved hW.alike hKc, hDc.weaken (fun _ _ _ _ => trivial)⟩⟩ rfl rfl hl.1 rfl (lv_room (Nat.le_of_ble_eq_true rfl)) dX2_command_17 ⟨Nat.le_of_ble_eq_true rfl, Nat.le_of_ble_eq_true rfl⟩) hS (fun q _ h => hFc q h) hFc (fun r9 u9 t H1 locs ht hvm hw hB hz1 hk1 hS => ?_)
    obtain ⟨hw1, hw2⟩ := hw
    have hw2 := hw2.symm
    subst hw1 hw2
    obtain ⟨hP1, hK1, hD1⟩ := hB
    rw [ht] at hP1
    obtain ⟨hP, hD⟩ := jK_K0 hP hD hk1 hFc hP1 hD1
    clear hPc hDc hKc hFc hz1 hk1 hP1 hK1 hD1 ht hvm
    generalize H1 = H at hP hS ⊢
    refine lv_if_ne (tgt := 36) hx hb dX2_command_20 (by decide) (fun c2 => ?_) (fun c2 => ?_)
    · skip
      refine lv_aload_n hx hb dX2_command_36 rfl (lv_at hl 1 rfl) ?_
      refine lv_dup hx hb dX2_command_37 rfl ?_
      refine va_get (D := (dC, dI)) (ci := 2) (v := .int (gKW_K_st u)) (C := RX2) (T := TX2) (N := 11) hx hb hts iX2_command_X2 hown hK hP 0 rfl rfl 5 (by decide) (hts _ qX2_command_0) (fun _ h9 => h9) rfl dX2_command_38 ?_
      refine lv_iconst (v := 4) hx hb dX2_command_41 (by decide) ?_
      refine lv_ior hx hb dX2_command_42 ?_
      refine va_put (D := (dC, dI)) (ci := 2) (v := .int ((gKW_K_st u) ||| (4 : Int32))) (ty := .int) (C := RX2) (T := TX2) (N := 11) hx hb hts iX2_command_X2 tyX2 tyX2_ok nmX2 hown hK hP hD hS 0 rfl rfl 5 (by decide) (hts _ qX2_command_0) (fun _ h9 => h9) rfl (by decide +kernel) rfl rfl (Nat.le_of_ble_eq_true rfl) dX2_command_43 (fun H locs hP hD hS => ?_)
      obtain ⟨hP, hD⟩ := pK_K_st hP hD
      exact W.vret hx hb hr (fun t ht hW => ⟨⟨(sKW_K_st u ((gKW_K_st u) ||| (4 : Int32))), rfl, (by simp only [f_X2_command, if_neg c2]), by rw [ht]; exact hP, va_K.moved hW.alike hK, hD⟩, hS.F ht⟩) hS.2.2 dX2_command_46
    · skip
      refine lv_iload_n hx hb dX2_command_23 rfl (lv_at hl 0 rfl) ?_
      refine lv_if_eq (tgt := 36) hx hb dX2_command_24 (by decide) (fun c3 => ?_) (fun c3 => ?_)
      · skip
        refine lv_aload_n hx hb dX2_command_36 rfl (lv_at hl 1 rfl) ?_
        refine lv_dup hx hb dX2_command_37 rfl ?_
        refine va_get (D := (dC, dI)) (ci := 2) (v := .int (gKW_K_st u)) (C := RX2) (T := TX2) (N := 11) hx hb hts iX2_command_X2 hown hK hP 0 rfl rfl 5 (by decide) (hts _ qX2_command_0) (fun _ h9 => h9) rfl dX2_command_38 ?_
        refine lv_iconst (v := 4) hx hb dX2_command_41 (by decide) ?_
        refine lv_ior hx hb dX2_command_42 ?_
        refine va_put (D := (dC, dI)) (ci := 2) (v := .int ((gKW_K_st u) ||| (4 : Int32))) (ty := .int) (C := RX2) (T := TX2) (N := 11) hx hb hts iX2_command_X2 tyX2 tyX2_ok nmX2 hown hK hP hD hS 0 rfl rfl 5 (by decide) (hts _ qX2_command_0) (fun _ h9 => h9) rfl (by decide +kernel) rfl rfl (Nat.le_of_ble_eq_true rfl) dX2_command_43 (fun H locs hP hD hS => ?_)
        obtain ⟨hP, hD⟩ := pK_K_st hP hD
        exact W.vret hx hb hr (fun t ht hW => ⟨⟨(sKW_K_st u ((gKW_K_st u) ||| (4 : Int32))), rfl, (by simp only [f_X2_command, if_pos c2, if_pos c3]), by rw [ht]; exact hP, va_K.moved hW.alike hK, hD⟩, hS.F ht⟩) hS.2.2 dX2_command_46
      · skip
        refine lv_aload_n hx hb dX2_command_27 rfl (lv_at hl 1 rfl) ?_
        refine va_get (D := (dC, dI)) (ci := 2) (v := .int (gKW_K_sec u)) (C := RX2) (T := TX2) (N := 11) hx hb hts iX2_command_X2 hown hK hP 0 rfl rfl 2 (by decide) (hts _ qX2_command_1) (fun _ h9 => h9) rfl dX2_command_28 ?_
        refine lv_bipush (v := 64) hx hb dX2_command_31 (by decide) ?_
        refine lv_icmp_lt (tgt := 47) hx hb dX2_command_33 (by decide) (fun c4 => ?_) (fun c4 => ?_)
        · skip
          refine lv_aload_n hx hb dX2_command_47 rfl (lv_at hl 1 rfl) ?_
          refine lv_dup hx hb dX2_command_48 rfl ?_
          refine va_get (D := (dC, dI)) (ci := 2) (v := .int (gKW_K_st u)) (C := RX2) (T := TX2) (N := 11) hx hb hts iX2_command_X2 hown hK hP 0 rfl rfl 5 (by decide) (hts _ qX2_command_0) (fun _ h9 => h9) rfl dX2_command_49 ?_
          refine lv_iconst (v := 1) hx hb dX2_command_52 (by decide) ?_
          refine lv_ior hx hb dX2_command_53 ?_
          refine va_put (D := (dC, dI)) (ci := 2) (v := .int ((gKW_K_st u) ||| (1 : Int32))) (ty := .int) (C := RX2) (T := TX2) (N := 11) hx hb hts iX2_command_X2 tyX2 tyX2_ok nmX2 hown hK hP hD hS 0 rfl rfl 5 (by decide) (hts _ qX2_command_0) (fun _ h9 => h9) rfl (by decide +kernel) rfl rfl (Nat.le_of_ble_eq_true rfl) dX2_command_54 (fun H locs hP hD hS => ?_)
          obtain ⟨hP, hD⟩ := pK_K_st hP hD
          refine lv_aload_n hx hb dX2_command_57 rfl (lv_at hl 1 rfl) ?_
          refine lv_aload_n hx hb dX2_command_58 rfl (lv_at hl 1 rfl) ?_
          refine va_get (D := (dC, dI)) (ci := 2) (v := .int (gKW_K_sec (sKW_K_st u ((gKW_K_st u) ||| (1 : Int32))))) (C := RX2) (T := TX2) (N := 11) hx hb hts iX2_command_X2 hown hK hP 0 rfl rfl 2 (by decide) (hts _ qX2_command_1) (fun _ h9 => h9) rfl dX2_command_59 ?_
          refine lv_bipush (v := 64) hx hb dX2_command_62 (by decide) ?_
          refine lv_imul hx hb dX2_command_64 ?_
          refine va_put (D := (dC, dI)) (ci := 2) (v := .int ((gKW_K_sec (sKW_K_st u ((gKW_K_st u) ||| (1 : Int32)))) * (64 : Int32))) (ty := .int) (C := RX2) (T := TX2) (N := 11) hx hb hts iX2_command_X2 tyX2 tyX2_ok nmX2 hown hK hP hD hS 0 rfl rfl 6 (by decide) (hts _ qX2_command_2) (fun _ h9 => h9) rfl (by decide +kernel) rfl rfl (Nat.le_of_ble_eq_true rfl) dX2_command_65 (fun H locs hP hD hS => ?_)
          obtain ⟨hP, hD⟩ := pK_K_start hP hD
          refine lv_aload_n hx hb dX2_command_68 rfl (lv_at hl 1 rfl) ?_
          refine lv_iload_n hx hb dX2_command_69 rfl (lv_at hl 2 rfl) ?_
          refine lv_iconst (v := 2) hx hb dX2_command_70 (by decide) ?_
          refine jn_b (D := (dC, dI)) (cl := vwCl) (ws := (wK cI kO mS mA dS dA (sKW_K_start (sKW_K_st u ((gKW_K_st u) ||| (1 : Int32))) ((gKW_K_sec (sKW_K_st u ((gKW_K_st u) ||| (1 : Int32)))) * (64 : Int32))))) (A := A) (H0 := s.heap) (nL := 3) 79 (if a1 = (2 : Int32) then true else false : Bool) [(0, .ref kO), (1, .int a1), (2, .int (bI (if a1 = (1 : Int32) then true else (if a1 = (2 : Int32) then true else false : Bool) : Bool)))] [.ref kO] (fun H locs ls hP hS hl => ?_) (fun hJ5 => ?_)
          · skip
            refine va_put (D := (dC, dI)) (ci := 2) (v := .int (bI (if a1 = (2 : Int32) then true else false : Bool))) (ty := .boolean) (C := RX2) (T := TX2) (N := 11) hx hb hts iX2_command_X2 tyX2 tyX2_ok nmX2 hown hK hP hD hS 0 rfl rfl 7 (by decide) (hts _ qX2_command_3) (fun _ h9 => h9) rfl (by decide +kernel) (bI_nar (if a1 = (2 : Int32) then true else false : Bool)) (bI_fit (if a1 = (2 : Int32) then true else false : Bool)) (Nat.le_of_ble_eq_true rfl) dX2_command_79 (fun H locs hP hD hS => ?_)
            obtain ⟨hP, hD⟩ := pK_K_toD hP hD
            refine lv_aload_n hx hb dX2_command_82 rfl (lv_at hl 0 rfl) ?_
            refine lv_iconst (v := 0) hx hb dX2_command_83 (by decide) ?_
            refine va_put (D := (dC, dI)) (ci := 2) (v := .int 0) (ty := .int) (C := RX2) (T := TX2) (N := 11) hx hb hts iX2_command_X2 tyX2 tyX2_ok nmX2 hown hK hP hD hS 0 rfl rfl 8 (by decide) (hts _ qX2_command_4) (fun _ h9 => h9) rfl (by decide +kernel) rfl rfl (Nat.le_of_ble_eq_true rfl) dX2_command_84 (fun H locs hP hD hS => ?_)
            obtain ⟨hP, hD⟩ := pK_K_mov hP hD
            refine lv_aload_n hx hb dX2_command_87 rfl (lv_at hl 0 rfl) ?_
            refine lv_iconst (v := 0) hx hb dX2_command_88 (by decide) ?_
            refine va_put (D := (dC, dI)) (ci := 2) (v := .int 0) (ty := .int) (C := RX2) (T := TX2) (N := 11) hx hb hts iX2_command_X2 tyX2 tyX2_ok nmX2 hown hK hP hD hS 0 rfl rfl 9 (by decide) (hts _ qX2_command_5) (fun _ h9 => h9) rfl (by decide +kernel) rfl rfl (Nat.le_of_ble_eq_true rfl) dX2_command_89 (fun H locs hP hD hS => ?_)
            obtain ⟨hP, hD⟩ := pK_K_left hP hD
            refine lv_aload_n hx hb dX2_command_92 rfl (lv_at hl 0 rfl) ?_
            refine lv_iconst (v := 1) hx hb dX2_command_93 (by decide) ?_
            refine va_put (D := (dC, dI)) (ci := 2) (v := .int (bI true)) (ty := .boolean) (C := RX2) (T := TX2) (N := 11) hx hb hts iX2_command_X2 tyX2 tyX2_ok nmX2 hown hK hP hD hS 0 rfl rfl 10 (by decide) (hts _ qX2_command_6) (fun _ h9 => h9) rfl (by decide +kernel) (bI_nar true) (bI_fit true) (Nat.le_of_ble_eq_true rfl) dX2_command_94 (fun H locs hP hD hS => ?_)
            obtain ⟨hP, hD⟩ := pK_K_just hP hD
            exact W.vret hx hb hr (fun t ht hW => ⟨⟨(sKW_K_just (sKW_K_left (sKW_K_mov (sKW_K_toD (sKW_K_start (sKW_K_st u ((gKW_K_st u) ||| (1 : Int32))) ((gKW_K_sec (sKW_K_st u ((gKW_K_st u) ||| (1 : Int32)))) * (64 : Int32))) (if a1 = (2 : Int32) then true else false : Bool)) 0) 0) true), rfl, (by simp only [f_X2_command, if_pos c2, if_neg c3, if_pos c4]), by rw [ht]; exact hP, va_K.moved hW.alike hK, hD⟩, hS.F ht⟩) hS.2.2 dX2_command_97
          · skip
            refine lv_icmp_ne (tgt := 78) hx hb dX2_command_71 (by decide) (fun c6 => ?_) (fun c6 => ?_)
            · skip
              refine lv_iconst (v := 0) hx hb dX2_command_78 (by decide) ?_
              exact hJ5 false _ _ _ (by simp only [if_neg c6]) hP hS (lv_sub hl [1, 2, 0] rfl)
            · skip
              refine lv_iconst (v := 1) hx hb dX2_command_74 (by decide) ?_
              refine lv_goto (tgt := 79) hx hb dX2_command_75 (by decide) ?_
              exact hJ5 true _ _ _ (by simp only [if_pos c6]) hP hS (lv_sub hl [1, 2, 0] rfl)
        · skip
          refine lv_aload_n hx hb dX2_command_36 rfl (lv_at hl 1 rfl) ?_
          refine lv_dup hx hb dX2_command_37 rfl ?_
          refine va_get (D := (dC, dI)) (ci := 2) (v := .int (gKW_K_st u)) (C := RX2) (T := TX2) (N := 11) hx hb hts iX2_command_X2 hown hK hP 0 rfl rfl 5 (by decide) (hts _ qX2_command_0) (fun _ h9 => h9) rfl dX2_command_38 ?_
          refine lv_iconst (v := 4) hx hb dX2_command_41 (by decide) ?_
          refine lv_ior hx hb dX2_command_42 ?_
          refine va_put (D := (dC, dI)) (ci := 2) (v := .int ((gKW_K_st u) ||| (4 : Int32))) (ty := .int) (C := RX2) (T := TX2) (N := 11) hx hb hts iX2_command_X2 tyX2 tyX2_ok nmX2 hown hK hP hD hS 0 rfl rfl 5 (by decide) (hts _ qX2_command_0) (fun _ h9 => h9) rfl (by decide +kernel) rfl rfl (Nat.le_of_ble_eq_true rfl) dX2_command_43 (fun H locs hP hD hS => ?_)
          obtain ⟨hP, hD⟩ := pK_K_st hP hD
          exact W.vret hx hb hr (fun t ht hW => ⟨⟨(sKW_K_st u ((gKW_K_st u) ||| (4 : Int32))), rfl, (by simp only [f_X2_command, if_pos c2, if_neg c3, if_neg c4]), by rw [ht]; exact hP, va_K.moved hW.alike hK, hD⟩, hS.F ht⟩) hS.2.2 dX2_command_46
  · skip
    refine lv_icmp_eq (tgt := 10) hx hb dX2_command_2 (by decide) (fun c7 => ?_) (fun c7 => ?_)
    · skip
      refine lv_iconst (v := 1) hx hb dX2_command_10 (by decide) ?_
      refine lv_goto (tgt := 15) hx hb dX2_command_11 (by decide) ?_
      exact hJ1 true _ _ _ (by simp only [if_pos c7]) hP hS (lv_sub hl [0, 1] rfl)
    · skip
      refine lv_iload_n hx hb dX2_command_5 rfl (lv_at hl 1 rfl) ?_
      refine lv_iconst (v := 2) hx hb dX2_command_6 (by decide) ?_
      refine jn_b (D := (dC, dI)) (cl := vwCl) (ws := (wK cI kO mS mA dS dA u)) (A := A) (H0 := s.heap) (nL := 3) 15 (if a1 = (2 : Int32) then true else false : Bool) [(0, .ref kO), (1, .int a1)] [] (fun H locs ls hP hS hl => ?_) (fun hJ8 => ?_)
      · skip
        exact hJ1 (if a1 = (2 : Int32) then true else false : Bool) _ _ _ (by simp only [if_neg c7]) hP hS (lv_sub hl [0, 1] rfl)
      · skip
        refine lv_icmp_ne (tgt := 14) hx hb dX2_command_7 (by decide) (fun c9 => ?_) (fun c9 => ?_)
        · skip
          refine lv_iconst (v := 0) hx hb dX2_command_14 (by decide) ?_
          exact hJ8 false _ _ _ (by simp only [if_neg c9]) hP hS (lv_sub hl [0, 1] rfl)
        · skip
          refine lv_iconst (v := 1) hx hb dX2_command_10 (by decide) ?_
          refine lv_goto (tgt := 15) hx hb dX2_command_11 (by decide) ?_
          exact hJ8 true _ _ _ (by simp only [if_pos c9]) hP hS (lv_sub hl [0, 1] rfl)

def f_X2_takeState (u : KW) : Int32 × KW := ((gKW_K_st u), (sKW_K_st u ((gKW_K_st u) &&& (1 : Int32))))
theorem qX2_takeState_0 : Cond.fieldLink RX2 33 "DiskMachine$Controller" "state" "I" ∈ wsX2_takeState := by decide +kernel
theorem iX2_takeState_X2 : ∀ w ∈ wsX20, w ∈ wsX2_takeState := by decide +kernel
set_option maxHeartbeats 4000000 in
set_option maxRecDepth 100000 in
theorem k_X2_takeState (l : Launch) (dC : Nat → ClassId) (dI : Nat → Nat → Nat) (cI : ClassId) (kO mS mA dS dA : Nat) (sz : Nat) (u : KW) : Met l yX2_takeState wsX2_takeState ({ frames := 0, cells := 0, slots := 0, locals := 0 }) (va_Pc [.ref kO] (wB dC dI [(cI, .int)] sz (wK cI kO mS mA dS dA u))) (va_Qi (fun (r : Int32) (u' : KW) => r = (f_X2_takeState u).1 ∧ u' = (f_X2_takeState u).2) (fun u' => wE dC dI [(cI, .int)] (va_A (wK cI kO mS mA dS dA u) sz) (wK cI kO mS mA dS dA u')) (va_A (wK cI kO mS mA dS dA u) sz)) 0 0 (va_A (wK cI kO mS mA dS dA u) sz) := by
  refine Met.ofW (cc := cX2_takeState) (maxL := 2) (ret := (some .int)) (by decide) rfl ?_
  intro p e s m args below meth c s₁ B hml hv
  obtain ⟨rfl, hsz, hP, hK, hD0⟩ := hv
  have hx := B.exec
  have hb := B.bytes
  have hr := B.returns
  have hts := atoms_spec (ws := wsX2_takeState) B.pre
  have hown : s.vm.findClass RX2 = some m.cls := findClass_of_methodNamed B.named
  have hlocks := B.notSynchronized
  subst hsz
  have hD := hD0.self (sz := s.heap.size)
  generalize hAe : va_A (wK cI kO mS mA dS dA u) s.heap.size = A at hD ⊢
  have hA : ∀ q : Nat, s.heap.size ≤ q → A q := fun q h => by rw [← hAe]; exact Or.inr h
  have hS : va_S A s.heap s.heap [] := va_S.rf
  have hP : va_P (dC, dI) vwCl (wK cI kO mS mA dS dA u) s.heap := hP
  clear hAe hD0
  have hl := lv_entry ([.ref kO]) (n := 2) (Nat.le_of_ble_eq_true rfl)
  rw [lg_entry_eq]
  generalize (lg_sl ([.ref kO]) ++ List.replicate (2 - (lg_sl ([.ref kO])).length) Slot.unset).toArray = ls at hl ⊢
  have hl : lv_has ls 2 [(0, .ref kO)] := hl
  refine jn_H hP hS (fun H locs hP hS => ?_)
  refine lv_aload_n hx hb dX2_takeState_0 rfl (lv_at hl 0 rfl) ?_
  refine va_get (D := (dC, dI)) (ci := 2) (v := .int (gKW_K_st u)) (C := RX2) (T := TX2) (N := 11) hx hb hts iX2_takeState_X2 hown hK hP 0 rfl rfl 5 (by decide) (hts _ qX2_takeState_0) (fun _ h9 => h9) rfl dX2_takeState_1 ?_
  refine lv_istore_n (lv' := [(1, .int (gKW_K_st u)), (0, .ref kO)]) hx hb dX2_takeState_4 rfl hl (by decide) rfl (fun ls hl => ?_)
  refine lv_aload_n hx hb dX2_takeState_5 rfl (lv_at hl 1 rfl) ?_
  refine lv_dup hx hb dX2_takeState_6 rfl ?_
  refine va_get (D := (dC, dI)) (ci := 2) (v := .int (gKW_K_st u)) (C := RX2) (T := TX2) (N := 11) hx hb hts iX2_takeState_X2 hown hK hP 0 rfl rfl 5 (by decide) (hts _ qX2_takeState_0) (fun _ h9 => h9) rfl dX2_takeState_7 ?_
  refine lv_iconst (v := 1) hx hb dX2_takeState_10 (by decide) ?_
  refine lv_iand hx hb dX2_takeState_11 ?_
  refine va_put (D := (dC, dI)) (ci := 2) (v := .int ((gKW_K_st u) &&& (1 : Int32))) (ty := .int) (C := RX2) (T := TX2) (N := 11) hx hb hts iX2_takeState_X2 tyX2 tyX2_ok nmX2 hown hK hP hD hS 0 rfl rfl 5 (by decide) (hts _ qX2_takeState_0) (fun _ h9 => h9) rfl (by decide +kernel) rfl rfl (Nat.le_of_ble_eq_true rfl) dX2_takeState_12 (fun H locs hP hD hS => ?_)
  obtain ⟨hP, hD⟩ := pK_K_st hP hD
  refine lv_iload_n hx hb dX2_takeState_15 rfl (lv_at hl 0 rfl) ?_
  exact W.iret (v := (gKW_K_st u)) hx hb hr (fun t ht hW => ⟨⟨(gKW_K_st u), (sKW_K_st u ((gKW_K_st u) &&& (1 : Int32))), rfl, ⟨rfl, rfl⟩, by rw [ht]; exact hP, va_K.moved hW.alike hK, hD⟩, hS.F ht⟩) hS.2.2 dX2_takeState_16

def f_X2_moveByte (u : KW) : KW := 
  if (bI (gKW_K_toD u)) = (0 : Int32) then (sKW_K_mov (sKW_K_adr (sKW_m u (f_X5_setByte (gKW_m u) (gKW_K_adr u) (f_X5_byteAt (gKW_d u) ((gKW_K_start u) + (gKW_K_mov u))))) (((gKW_K_adr (sKW_m u (f_X5_setByte (gKW_m u) (gKW_K_adr u) (f_X5_byteAt (gKW_d u) ((gKW_K_start u) + (gKW_K_mov u)))))) + (1 : Int32)) &&& (65535 : Int32))) ((gKW_K_mov (sKW_K_adr (sKW_m u (f_X5_setByte (gKW_m u) (gKW_K_adr u) (f_X5_byteAt (gKW_d u) ((gKW_K_start u) + (gKW_K_mov u))))) (((gKW_K_adr (sKW_m u (f_X5_setByte (gKW_m u) (gKW_K_adr u) (f_X5_byteAt (gKW_d u) ((gKW_K_start u) + (gKW_K_mov u)))))) + (1 : Int32)) &&& (65535 : Int32)))) + (1 : Int32)))
  else (sKW_K_mov (sKW_K_adr (sKW_d u (f_X5_setByte (gKW_d u) ((gKW_K_start u) + (gKW_K_mov u)) (f_X5_byteAt (gKW_m u) (gKW_K_adr u)))) (((gKW_K_adr (sKW_d u (f_X5_setByte (gKW_d u) ((gKW_K_start u) + (gKW_K_mov u)) (f_X5_byteAt (gKW_m u) (gKW_K_adr u))))) + (1 : Int32)) &&& (65535 : Int32))) ((gKW_K_mov (sKW_K_adr (sKW_d u (f_X5_setByte (gKW_d u) ((gKW_K_start u) + (gKW_K_mov u)) (f_X5_byteAt (gKW_m u) (gKW_K_adr u)))) (((gKW_K_adr (sKW_d u (f_X5_setByte (gKW_d u) ((gKW_K_start u) + (gKW_K_mov u)) (f_X5_byteAt (gKW_m u) (gKW_K_adr u))))) + (1 : Int32)) &&& (65535 : Int32)))) + (1 : Int32)))
theorem qX2_moveByte_0 : Cond.fieldLink RX2 36 "DiskMachine$Controller" "diskStart" "I" ∈ wsX2_moveByte := by decide +kernel
theorem qX2_moveByte_1 : Cond.fieldLink RX2 43 "DiskMachine$Controller" "moved" "I" ∈ wsX2_moveByte := by decide +kernel
theorem qX2_moveByte_2 : Cond.fieldLink RX2 39 "DiskMachine$Controller" "toDisk" "Z" ∈ wsX2_moveByte := by decide +kernel
theorem qX2_moveByte_3 : Cond.fieldLink RX2 9 "DiskMachine$Controller" "memory" "LDiskMachine$Store;" ∈ wsX2_moveByte := by decide +kernel
theorem qX2_moveByte_4 : Cond.fieldLink RX2 22 "DiskMachine$Controller" "address" "I" ∈ wsX2_moveByte := by decide +kernel
theorem qX2_moveByte_5 : Cond.fieldLink RX2 15 "DiskMachine$Controller" "disk" "LDiskMachine$Store;" ∈ wsX2_moveByte := by decide +kernel
theorem qX2_moveByte_6 : Cond.constant RX2 69 (65535) ∈ wsX2_moveByte := by decide +kernel
theorem iX2_moveByte_X2 : ∀ w ∈ wsX20, w ∈ wsX2_moveByte := by decide +kernel
set_option maxHeartbeats 4000000 in
set_option maxRecDepth 100000 in
theorem k_X2_moveByte (l : Launch) (dC : Nat → ClassId) (dI : Nat → Nat → Nat) (cI : ClassId) (kO mS mA dS dA : Nat) (sz : Nat) (u : KW) : Met l yX2_moveByte wsX2_moveByte ({ frames := 1, cells := 0, slots := 0, locals := 22 }) (va_Pc [.ref kO] (wB dC dI [(cI, .int)] sz (wK cI kO mS mA dS dA u))) (va_Qv (fun u' : KW => u' = (f_X2_moveByte u)) (fun u' => wE dC dI [(cI, .int)] (va_A (wK cI kO mS mA dS dA u) sz) (wK cI kO mS mA dS dA u')) (va_A (wK cI kO mS mA dS dA u) sz)) 0 0 (va_A (wK cI kO mS mA dS dA u) sz) := by
  refine Met.ofW (cc := cX2_moveByte) (maxL := 2) (ret := none) (by decide) rfl ?_
  intro p e s m args below meth c s₁ B hml hv
  obtain ⟨rfl, hsz, hP, hK, hD0⟩ := hv
  have hx := B.exec
  have hb := B.bytes
  have hr := B.returns
  have hts := atoms_spec (ws := wsX2_moveByte) B.pre
  have hown : s.vm.findClass RX2 = some m.cls := findClass_of_methodNamed B.named
  have hlocks := B.notSynchronized
  subst hsz
  have hD := hD0.self (sz := s.heap.size)
  generalize hAe : va_A (wK cI kO mS mA dS dA u) s.heap.size = A at hD ⊢
  have hA : ∀ q : Nat, s.heap.size ≤ q → A q := fun q h => by rw [← hAe]; exact Or.inr h
  have hS : va_S A s.heap s.heap [] := va_S.rf
  have hP : va_P (dC, dI) vwCl (wK cI kO mS mA dS dA u) s.heap := hP
  clear hAe hD0
  have hl := lv_entry ([.ref kO]) (n := 2) (Nat.le_of_ble_eq_true rfl)
  rw [lg_entry_eq]
  generalize (lg_sl ([.ref kO]) ++ List.replicate (2 - (lg_sl ([.ref kO])).length) Slot.unset).toArray = ls at hl ⊢
  have hl : lv_has ls 2 [(0, .ref kO)] := hl
  refine jn_H hP hS (fun H locs hP hS => ?_)
  refine lv_aload_n hx hb dX2_moveByte_0 rfl (lv_at hl 0 rfl) ?_
  refine va_get (D := (dC, dI)) (ci := 2) (v := .int (gKW_K_start u)) (C := RX2) (T := TX2) (N := 11) hx hb hts iX2_moveByte_X2 hown hK hP 0 rfl rfl 6 (by decide) (hts _ qX2_moveByte_0) (fun _ h9 => h9) rfl dX2_moveByte_1 ?_
  refine lv_aload_n hx hb dX2_moveByte_4 rfl (lv_at hl 0 rfl) ?_
  refine va_get (D := (dC, dI)) (ci := 2) (v := .int (gKW_K_mov u)) (C := RX2) (T := TX2) (N := 11) hx hb hts iX2_moveByte_X2 hown hK hP 0 rfl rfl 8 (by decide) (hts _ qX2_moveByte_1) (fun _ h9 => h9) rfl dX2_moveByte_5 ?_
  refine lv_iadd hx hb dX2_moveByte_8 ?_
  refine lv_istore_n (lv' := [(1, .int ((gKW_K_start u) + (gKW_K_mov u))), (0, .ref kO)]) hx hb dX2_moveByte_9 rfl hl (by decide) rfl (fun ls hl => ?_)
  refine lv_aload_n hx hb dX2_moveByte_10 rfl (lv_at hl 1 rfl) ?_
  refine va_get (D := (dC, dI)) (ci := 2) (v := .int (bI (gKW_K_toD u))) (C := RX2) (T := TX2) (N := 11) hx hb hts iX2_moveByte_X2 hown hK hP 0 rfl rfl 7 (by decide) (hts _ qX2_moveByte_2) (fun _ h9 => h9) rfl dX2_moveByte_11 ?_
  refine lv_if_eq (tgt := 39) hx hb dX2_moveByte_14 (by decide) (fun c1 => ?_) (fun c1 => ?_)
  · skip
    refine lv_aload_n hx hb dX2_moveByte_39 rfl (lv_at hl 1 rfl) ?_
    refine va_get (D := (dC, dI)) (ci := 2) (v := .ref mS) (C := RX2) (T := TX2) (N := 11) hx hb hts iX2_moveByte_X2 hown hK hP 0 rfl rfl 0 (by decide) (hts _ qX2_moveByte_3) (fun _ h9 => h9) rfl dX2_moveByte_40 ?_
    refine lv_aload_n hx hb dX2_moveByte_43 rfl (lv_at hl 1 rfl) ?_
    refine va_get (D := (dC, dI)) (ci := 2) (v := .int (gKW_K_adr u)) (C := RX2) (T := TX2) (N := 11) hx hb hts iX2_moveByte_X2 hown hK hP 0 rfl rfl 3 (by decide) (hts _ qX2_moveByte_4) (fun _ h9 => h9) rfl dX2_moveByte_44 ?_
    refine lv_aload_n hx hb dX2_moveByte_47 rfl (lv_at hl 1 rfl) ?_
    refine va_get (D := (dC, dI)) (ci := 2) (v := .ref dS) (C := RX2) (T := TX2) (N := 11) hx hb hts iX2_moveByte_X2 hown hK hP 0 rfl rfl 1 (by decide) (hts _ qX2_moveByte_5) (fun _ h9 => h9) rfl dX2_moveByte_48 ?_
    refine lv_iload_n hx hb dX2_moveByte_51 rfl (lv_at hl 0 rfl) ?_
    obtain ⟨hPc, hDc, hFc⟩ := xK_S_dS hP hD hS hA
    have hKc := hK.sub (tys' := [(cI, .int)]) [0] rfl
    refine va_calli (va_runV (As := [.int ((gKW_K_start u) + (gKW_K_mov u))]) (rest := [.int (gKW_K_adr u), .ref mS]) ⟨hx, hb, hml, hown, hts⟩ (k_X5_byteAt l dC dI cI dS dA H.size (gKW_d u) ((gKW_K_start u) + (gKW_K_mov u))) (cwV 1 hts gX2_moveByte_X5_byteAt rfl rfl rfl (by decide +kernel) ⟨Nat.le_of_ble_eq_true rfl, Nat.le_of_ble_eq_true rfl⟩) ⟨fun a U g mk q => by obtain ⟨q0, q1, qP, qK, qD⟩ := q; exact ⟨q0, q1, qP, va_K.moved (u := U) (U := U.calling g mk a) (Vm.Alike.refl U.vm) qK, qD⟩, va_recv hKc hPc (ci := 5) (q0 := 0) rfl rfl, fun U hU hW => ⟨rfl, by rw [hU], by rw [hU]; exact hPc, va_K.moved hW.alike hKc, hDc.weaken (fun _ _ _ _ => trivial)⟩⟩ rfl rfl hl.1 rfl (lv_room (Nat.le_of_ble_eq_true rfl)) dX2_moveByte_52 ⟨Nat.le_of_ble_eq_true rfl, Nat.le_of_ble_eq_true rfl⟩) hS (fun q _ h => hFc q h) hFc (fun r9 u9 t H1 locs ht hvm hw hB hz1 hk1 hS => ?_)
    obtain ⟨hw1, hw2⟩ := hw
    have hw2 := hw2.symm
    subst hw1 hw2
    obtain ⟨hP1, hK1, hD1⟩ := hB
    rw [ht] at hP1
    obtain ⟨hP, hD⟩ := jK_S_dS0 hP hD hk1 hFc hP1 hD1
    clear hPc hDc hKc hFc hz1 hk1 hP1 hK1 hD1 ht hvm
    generalize H1 = H at hP hS ⊢
    obtain ⟨hPc, hDc, hFc⟩ := xK_S_mS hP hD hS hA
    have hKc := hK.sub (tys' := [(cI, .int)]) [0] rfl
    refine va_callv (va_runV (As := [.int (gKW_K_adr u), .int (f_X5_byteAt (gKW_d u) ((gKW_K_start u) + (gKW_K_mov u)))]) (rest := []) ⟨hx, hb, hml, hown, hts⟩ (k_X5_setByte l dC dI cI mS mA H.size (gKW_m u) (gKW_K_adr u) (f_X5_byteAt (gKW_d u) ((gKW_K_start u) + (gKW_K_mov u)))) (cwV 2 hts gX2_moveByte_X5_setByte rfl rfl rfl (by decide +kernel) ⟨Nat.le_of_ble_eq_true rfl, Nat.le_of_ble_eq_true rfl⟩) ⟨fun a U g mk q => by obtain ⟨q0, q1, qP, qK, qD⟩ := q; exact ⟨q0, q1, qP, va_K.moved (u := U) (U := U.calling g mk a) (Vm.Alike.refl U.vm) qK, qD⟩, va_recv hKc hPc (ci := 5) (q0 := 0) rfl rfl, fun U hU hW => ⟨rfl, by rw [hU], by rw [hU]; exact hPc, va_K.moved hW.alike hKc, hDc.weaken (fun _ _ _ _ => trivial)⟩⟩ rfl rfl hl.1 rfl (lv_room (Nat.le_of_ble_eq_true rfl)) dX2_moveByte_55 ⟨Nat.le_of_ble_eq_true rfl, Nat.le_of_ble_eq_true rfl⟩) hS (fun q _ h => hFc q h) hFc (fun u9 t H1 locs ht hvm hw hB hz1 hk1 hS => ?_)
    subst hw
    obtain ⟨hP1, hK1, hD1⟩ := hB
    rw [ht] at hP1
    obtain ⟨hP, hD⟩ := jK_S_mS hP hD hk1 hFc hP1 hD1
    clear hPc hDc hKc hFc hz1 hk1 hP1 hK1 hD1 ht hvm
    generalize H1 = H at hP hS ⊢
    refine lv_aload_n hx hb dX2_moveByte_58 rfl (lv_at hl 1 rfl) ?_
    refine lv_aload_n hx hb dX2_moveByte_59 rfl (lv_at hl 1 rfl) ?_
    refine va_get (D := (dC, dI)) (ci := 2) (v := .int (gKW_K_adr (sKW_m u (f_X5_setByte (gKW_m u) (gKW_K_adr u) (f_X5_byteAt (gKW_d u) ((gKW_K_start u) + (gKW_K_mov u))))))) (C := RX2) (T := TX2) (N := 11) hx hb hts iX2_moveByte_X2 hown hK hP 0 rfl rfl 3 (by decide) (hts _ qX2_moveByte_4) (fun _ h9 => h9) rfl dX2_moveByte_60 ?_
    refine lv_iconst (v := 1) hx hb dX2_moveByte_63 (by decide) ?_
    refine lv_iadd hx hb dX2_moveByte_64 ?_
    refine lv_ldc (v := 65535) hx hb hown (hts _ qX2_moveByte_6) dX2_moveByte_65 ?_
    refine lv_iand hx hb dX2_moveByte_67 ?_
    refine va_put (D := (dC, dI)) (ci := 2) (v := .int (((gKW_K_adr (sKW_m u (f_X5_setByte (gKW_m u) (gKW_K_adr u) (f_X5_byteAt (gKW_d u) ((gKW_K_start u) + (gKW_K_mov u)))))) + (1 : Int32)) &&& (65535 : Int32))) (ty := .int) (C := RX2) (T := TX2) (N := 11) hx hb hts iX2_moveByte_X2 tyX2 tyX2_ok nmX2 hown hK hP hD hS 0 rfl rfl 3 (by decide) (hts _ qX2_moveByte_4) (fun _ h9 => h9) rfl (by decide +kernel) rfl rfl (Nat.le_of_ble_eq_true rfl) dX2_moveByte_68 (fun H locs hP hD hS => ?_)
    obtain ⟨hP, hD⟩ := pK_K_adr hP hD
    refine lv_aload_n hx hb dX2_moveByte_71 rfl (lv_at hl 1 rfl) ?_
    refine lv_dup hx hb dX2_moveByte_72 rfl ?_
    refine va_get (D := (dC, dI)) (ci := 2) (v := .int (gKW_K_mov (sKW_K_adr (sKW_m u (f_X5_setByte (gKW_m u) (gKW_K_adr u) (f_X5_byteAt (gKW_d u) ((gKW_K_start u) + (gKW_K_mov u))))) (((gKW_K_adr (sKW_m u (f_X5_setByte (gKW_m u) (gKW_K_adr u) (f_X5_byteAt (gKW_d u) ((gKW_K_start u) + (gKW_K_mov u)))))) + (1 : Int32)) &&& (65535 : Int32))))) (C := RX2) (T := TX2) (N := 11) hx hb hts iX2_moveByte_X2 hown hK hP 0 rfl rfl 8 (by decide) (hts _ qX2_moveByte_1) (fun _ h9 => h9) rfl dX2_moveByte_73 ?_
    refine lv_iconst (v := 1) hx hb dX2_moveByte_76 (by decide) ?_
    refine lv_iadd hx hb dX2_moveByte_77 ?_
    refine va_put (D := (dC, dI)) (ci := 2) (v := .int ((gKW_K_mov (sKW_K_adr (sKW_m u (f_X5_setByte (gKW_m u) (gKW_K_adr u) (f_X5_byteAt (gKW_d u) ((gKW_K_start u) + (gKW_K_mov u))))) (((gKW_K_adr (sKW_m u (f_X5_setByte (gKW_m u) (gKW_K_adr u) (f_X5_byteAt (gKW_d u) ((gKW_K_start u) + (gKW_K_mov u)))))) + (1 : Int32)) &&& (65535 : Int32)))) + (1 : Int32))) (ty := .int) (C := RX2) (T := TX2) (N := 11) hx hb hts iX2_moveByte_X2 tyX2 tyX2_ok nmX2 hown hK hP hD hS 0 rfl rfl 8 (by decide) (hts _ qX2_moveByte_1) (fun _ h9 => h9) rfl (by decide +kernel) rfl rfl (Nat.le_of_ble_eq_true rfl) dX2_moveByte_78 (fun H locs hP hD hS => ?_)
    obtain ⟨hP, hD⟩ := pK_K_mov hP hD
    exact W.vret hx hb hr (fun t ht hW => ⟨⟨(sKW_K_mov (sKW_K_adr (sKW_m u (f_X5_setByte (gKW_m u) (gKW_K_adr u) (f_X5_byteAt (gKW_d u) ((gKW_K_start u) + (gKW_K_mov u))))) (((gKW_K_adr (sKW_m u (f_X5_setByte (gKW_m u) (gKW_K_adr u) (f_X5_byteAt (gKW_d u) ((gKW_K_start u) + (gKW_K_mov u)))))) + (1 : Int32)) &&& (65535 : Int32))) ((gKW_K_mov (sKW_K_adr (sKW_m u (f_X5_setByte (gKW_m u) (gKW_K_adr u) (f_X5_byteAt (gKW_d u) ((gKW_K_start u) + (gKW_K_mov u))))) (((gKW_K_adr (sKW_m u (f_X5_setByte (gKW_m u) (gKW_K_adr u) (f_X5_byteAt (gKW_d u) ((gKW_K_start u) + (gKW_K_mov u)))))) + (1 : Int32)) &&& (65535 : Int32)))) + (1 : Int32))), rfl, (by simp only [f_X2_moveByte, if_pos c1]), by rw [ht]; exact hP, va_K.moved hW.alike hK, hD⟩, hS.F ht⟩) hS.2.2 dX2_moveByte_81
  · skip
    refine lv_aload_n hx hb dX2_moveByte_17 rfl (lv_at hl 1 rfl) ?_
    refine va_get (D := (dC, dI)) (ci := 2) (v := .ref dS) (C := RX2) (T := TX2) (N := 11) hx hb hts iX2_moveByte_X2 hown hK hP 0 rfl rfl 1 (by decide) (hts _ qX2_moveByte_5) (fun _ h9 => h9) rfl dX2_moveByte_18 ?_
    refine lv_iload_n hx hb dX2_moveByte_21 rfl (lv_at hl 0 rfl) ?_
    refine lv_aload_n hx hb dX2_moveByte_22 rfl (lv_at hl 1 rfl) ?_
    refine va_get (D := (dC, dI)) (ci := 2) (v := .ref mS) (C := RX2) (T := TX2) (N := 11) hx hb hts iX2_moveByte_X2 hown hK hP 0 rfl rfl 0 (by decide) (hts _ qX2_moveByte_3) (fun _ h9 => h9) rfl dX2_moveByte_23 ?_
    refine lv_aload_n hx hb dX2_moveByte_26 rfl (lv_at hl 1 rfl) ?_
    refine va_get (D := (dC, dI)) (ci := 2) (v := .int (gKW_K_adr u)) (C := RX2) (T := TX2) (N := 11) hx hb hts iX2_moveByte_X2 hown hK hP 0 rfl rfl 3 (by decide) (hts _ qX2_moveByte_4) (fun _ h9 => h9) rfl dX2_moveByte_27 ?_
    obtain ⟨hPc, hDc, hFc⟩ := xK_S_mS hP hD hS hA
    have hKc := hK.sub (tys' := [(cI, .int)]) [0] rfl
    refine va_calli (va_runV (As := [.int (gKW_K_adr u)]) (rest := [.int ((gKW_K_start u) + (gKW_K_mov u)), .ref dS]) ⟨hx, hb, hml, hown, hts⟩ (k_X5_byteAt l dC dI cI mS mA H.size (gKW_m u) (gKW_K_adr u)) (cwV 1 hts gX2_moveByte_X5_byteAt rfl rfl rfl (by decide +kernel) ⟨Nat.le_of_ble_eq_true rfl, Nat.le_of_ble_eq_true rfl⟩) ⟨fun a U g mk q => by obtain ⟨q0, q1, qP, qK, qD⟩ := q; exact ⟨q0, q1, qP, va_K.moved (u := U) (U := U.calling g mk a) (Vm.Alike.refl U.vm) qK, qD⟩, va_recv hKc hPc (ci := 5) (q0 := 0) rfl rfl, fun U hU hW => ⟨rfl, by rw [hU], by rw [hU]; exact hPc, va_K.moved hW.alike hKc, hDc.weaken (fun _ _ _ _ => trivial)⟩⟩ rfl rfl hl.1 rfl (lv_room (Nat.le_of_ble_eq_true rfl)) dX2_moveByte_30 ⟨Nat.le_of_ble_eq_true rfl, Nat.le_of_ble_eq_true rfl⟩) hS (fun q _ h => hFc q h) hFc (fun r9 u9 t H1 locs ht hvm hw hB hz1 hk1 hS => ?_)
    obtain ⟨hw1, hw2⟩ := hw
    have hw2 := hw2.symm
    subst hw1 hw2
    obtain ⟨hP1, hK1, hD1⟩ := hB
    rw [ht] at hP1
    obtain ⟨hP, hD⟩ := jK_S_mS0 hP hD hk1 hFc hP1 hD1
    clear hPc hDc hKc hFc hz1 hk1 hP1 hK1 hD1 ht hvm
    generalize H1 = H at hP hS ⊢
    obtain ⟨hPc, hDc, hFc⟩ := xK_S_dS hP hD hS hA
    have hKc := hK.sub (tys' := [(cI, .int)]) [0] rfl
    refine va_callv (va_runV (As := [.int ((gKW_K_start u) + (gKW_K_mov u)), .int (f_X5_byteAt (gKW_m u) (gKW_K_adr u))]) (rest := []) ⟨hx, hb, hml, hown, hts⟩ (k_X5_setByte l dC dI cI dS dA H.size (gKW_d u) ((gKW_K_start u) + (gKW_K_mov u)) (f_X5_byteAt (gKW_m u) (gKW_K_adr u))) (cwV 2 hts gX2_moveByte_X5_setByte rfl rfl rfl (by decide +kernel) ⟨Nat.le_of_ble_eq_true rfl, Nat.le_of_ble_eq_true rfl⟩) ⟨fun a U g mk q => by obtain ⟨q0, q1, qP, qK, qD⟩ := q; exact ⟨q0, q1, qP, va_K.moved (u := U) (U := U.calling g mk a) (Vm.Alike.refl U.vm) qK, qD⟩, va_recv hKc hPc (ci := 5) (q0 := 0) rfl rfl, fun U hU hW => ⟨rfl, by rw [hU], by rw [hU]; exact hPc, va_K.moved hW.alike hKc, hDc.weaken (fun _ _ _ _ => trivial)⟩⟩ rfl rfl hl.1 rfl (lv_room (Nat.le_of_ble_eq_true rfl)) dX2_moveByte_33 ⟨Nat.le_of_ble_eq_true rfl, Nat.le_of_ble_eq_true rfl⟩) hS (fun q _ h => hFc q h) hFc (fun u9 t H1 locs ht hvm hw hB hz1 hk1 hS => ?_)
    subst hw
    obtain ⟨hP1, hK1, hD1⟩ := hB
    rw [ht] at hP1
    obtain ⟨hP, hD⟩ := jK_S_dS hP hD hk1 hFc hP1 hD1
    clear hPc hDc hKc hFc hz1 hk1 hP1 hK1 hD1 ht hvm
    generalize H1 = H at hP hS ⊢
    refine lv_goto (tgt := 58) hx hb dX2_moveByte_36 (by decide) ?_
    refine lv_aload_n hx hb dX2_moveByte_58 rfl (lv_at hl 1 rfl) ?_
    refine lv_aload_n hx hb dX2_moveByte_59 rfl (lv_at hl 1 rfl) ?_
    refine va_get (D := (dC, dI)) (ci := 2) (v := .int (gKW_K_adr (sKW_d u (f_X5_setByte (gKW_d u) ((gKW_K_start u) + (gKW_K_mov u)) (f_X5_byteAt (gKW_m u) (gKW_K_adr u)))))) (C := RX2) (T := TX2) (N := 11) hx hb hts iX2_moveByte_X2 hown hK hP 0 rfl rfl 3 (by decide) (hts _ qX2_moveByte_4) (fun _ h9 => h9) rfl dX2_moveByte_60 ?_
    refine lv_iconst (v := 1) hx hb dX2_moveByte_63 (by decide) ?_
    refine lv_iadd hx hb dX2_moveByte_64 ?_
    refine lv_ldc (v := 65535) hx hb hown (hts _ qX2_moveByte_6) dX2_moveByte_65 ?_
    refine lv_iand hx hb dX2_moveByte_67 ?_
    refine va_put (D := (dC, dI)) (ci := 2) (v := .int (((gKW_K_adr (sKW_d u (f_X5_setByte (gKW_d u) ((gKW_K_start u) + (gKW_K_mov u)) (f_X5_byteAt (gKW_m u) (gKW_K_adr u))))) + (1 : Int32)) &&& (65535 : Int32))) (ty := .int) (C := RX2) (T := TX2) (N := 11) hx hb hts iX2_moveByte_X2 tyX2 tyX2_ok nmX2 hown hK hP hD hS 0 rfl rfl 3 (by decide) (hts _ qX2_moveByte_4) (fun _ h9 => h9) rfl (by decide +kernel) rfl rfl (Nat.le_of_ble_eq_true rfl) dX2_moveByte_68 (fun H locs hP hD hS => ?_)
    obtain ⟨hP, hD⟩ := pK_K_adr hP hD
    refine lv_aload_n hx hb dX2_moveByte_71 rfl (lv_at hl 1 rfl) ?_
    refine lv_dup hx hb dX2_moveByte_72 rfl ?_
    refine va_get (D := (dC, dI)) (ci := 2) (v := .int (gKW_K_mov (sKW_K_adr (sKW_d u (f_X5_setByte (gKW_d u) ((gKW_K_start u) + (gKW_K_mov u)) (f_X5_byteAt (gKW_m u) (gKW_K_adr u)))) (((gKW_K_adr (sKW_d u (f_X5_setByte (gKW_d u) ((gKW_K_start u) + (gKW_K_mov u)) (f_X5_byteAt (gKW_m u) (gKW_K_adr u))))) + (1 : Int32)) &&& (65535 : Int32))))) (C := RX2) (T := TX2) (N := 11) hx hb hts iX2_moveByte_X2 hown hK hP 0 rfl rfl 8 (by decide) (hts _ qX2_moveByte_1) (fun _ h9 => h9) rfl dX2_moveByte_73 ?_
    refine lv_iconst (v := 1) hx hb dX2_moveByte_76 (by decide) ?_
    refine lv_iadd hx hb dX2_moveByte_77 ?_
    refine va_put (D := (dC, dI)) (ci := 2) (v := .int ((gKW_K_mov (sKW_K_adr (sKW_d u (f_X5_setByte (gKW_d u) ((gKW_K_start u) + (gKW_K_mov u)) (f_X5_byteAt (gKW_m u) (gKW_K_adr u)))) (((gKW_K_adr (sKW_d u (f_X5_setByte (gKW_d u) ((gKW_K_start u) + (gKW_K_mov u)) (f_X5_byteAt (gKW_m u) (gKW_K_adr u))))) + (1 : Int32)) &&& (65535 : Int32)))) + (1 : Int32))) (ty := .int) (C := RX2) (T := TX2) (N := 11) hx hb hts iX2_moveByte_X2 tyX2 tyX2_ok nmX2 hown hK hP hD hS 0 rfl rfl 8 (by decide) (hts _ qX2_moveByte_1) (fun _ h9 => h9) rfl (by decide +kernel) rfl rfl (Nat.le_of_ble_eq_true rfl) dX2_moveByte_78 (fun H locs hP hD hS => ?_)
    obtain ⟨hP, hD⟩ := pK_K_mov hP hD
    exact W.vret hx hb hr (fun t ht hW => ⟨⟨(sKW_K_mov (sKW_K_adr (sKW_d u (f_X5_setByte (gKW_d u) ((gKW_K_start u) + (gKW_K_mov u)) (f_X5_byteAt (gKW_m u) (gKW_K_adr u)))) (((gKW_K_adr (sKW_d u (f_X5_setByte (gKW_d u) ((gKW_K_start u) + (gKW_K_mov u)) (f_X5_byteAt (gKW_m u) (gKW_K_adr u))))) + (1 : Int32)) &&& (65535 : Int32))) ((gKW_K_mov (sKW_K_adr (sKW_d u (f_X5_setByte (gKW_d u) ((gKW_K_start u) + (gKW_K_mov u)) (f_X5_byteAt (gKW_m u) (gKW_K_adr u)))) (((gKW_K_adr (sKW_d u (f_X5_setByte (gKW_d u) ((gKW_K_start u) + (gKW_K_mov u)) (f_X5_byteAt (gKW_m u) (gKW_K_adr u))))) + (1 : Int32)) &&& (65535 : Int32)))) + (1 : Int32))), rfl, (by simp only [f_X2_moveByte, if_neg c1]), by rw [ht]; exact hP, va_K.moved hW.alike hK, hD⟩, hS.F ht⟩) hS.2.2 dX2_moveByte_81

def f_X2_finish (u : KW) : Int32 × KW := ((if ((gKW_K_call (sKW_K_st u (((gKW_K_st u) &&& ((-2) : Int32)) ||| (2 : Int32)))) &&& (8 : Int32)) = (0 : Int32) then (-1) else ((gKW_K_call (sKW_K_st u (((gKW_K_st u) &&& ((-2) : Int32)) ||| (2 : Int32)))) &&& (7 : Int32)) : Int32), (sKW_K_st u (((gKW_K_st u) &&& ((-2) : Int32)) ||| (2 : Int32))))
theorem qX2_finish_0 : Cond.fieldLink RX2 33 "DiskMachine$Controller" "state" "I" ∈ wsX2_finish := by decide +kernel
theorem qX2_finish_1 : Cond.fieldLink RX2 26 "DiskMachine$Controller" "call" "I" ∈ wsX2_finish := by decide +kernel
theorem iX2_finish_X2 : ∀ w ∈ wsX20, w ∈ wsX2_finish := by decide +kernel
set_option maxHeartbeats 4000000 in
set_option maxRecDepth 100000 in
theorem k_X2_finish (l : Launch) (dC : Nat → ClassId) (dI : Nat → Nat → Nat) (cI : ClassId) (kO mS mA dS dA : Nat) (sz : Nat) (u : KW) : Met l yX2_finish wsX2_finish ({ frames := 0, cells := 0, slots := 0, locals := 0 }) (va_Pc [.ref kO] (wB dC dI [(cI, .int)] sz (wK cI kO mS mA dS dA u))) (va_Qi (fun (r : Int32) (u' : KW) => r = (f_X2_finish u).1 ∧ u' = (f_X2_finish u).2) (fun u' => wE dC dI [(cI, .int)] (va_A (wK cI kO mS mA dS dA u) sz) (wK cI kO mS mA dS dA u')) (va_A (wK cI kO mS mA dS dA u) sz)) 0 0 (va_A (wK cI kO mS mA dS dA u) sz) := by
  refine Met.ofW (cc := cX2_finish) (maxL := 1) (ret := (some .int)) (by decide) rfl ?_
  intro p e s m args below meth c s₁ B hml hv
  obtain ⟨rfl, hsz, hP, hK, hD0⟩ := hv
  have hx := B.exec
  have hb := B.bytes
  have hr := B.returns
  have hts := atoms_spec (ws := wsX2_finish) B.pre
  have hown : s.vm.findClass RX2 = some m.cls := findClass_of_methodNamed B.named
  have hlocks := B.notSynchronized
  subst hsz
  have hD := hD0.self (sz := s.heap.size)
  generalize hAe : va_A (wK cI kO mS mA dS dA u) s.heap.size = A at hD ⊢
  have hA : ∀ q : Nat, s.heap.size ≤ q → A q := fun q h => by rw [← hAe]; exact Or.inr h
  have hS : va_S A s.heap s.heap [] := va_S.rf
  have hP : va_P (dC, dI) vwCl (wK cI kO mS mA dS dA u) s.heap := hP
  clear hAe hD0
  have hl := lv_entry ([.ref kO]) (n := 1) (Nat.le_of_ble_eq_true rfl)
  rw [lg_entry_eq]
  generalize (lg_sl ([.ref kO]) ++ List.replicate (1 - (lg_sl ([.ref kO])).length) Slot.unset).toArray = ls at hl ⊢
  have hl : lv_has ls 1 [(0, .ref kO)] := hl
  refine jn_H hP hS (fun H locs hP hS => ?_)
  refine lv_aload_n hx hb dX2_finish_0 rfl (lv_at hl 0 rfl) ?_
  refine lv_aload_n hx hb dX2_finish_1 rfl (lv_at hl 0 rfl) ?_
  refine va_get (D := (dC, dI)) (ci := 2) (v := .int (gKW_K_st u)) (C := RX2) (T := TX2) (N := 11) hx hb hts iX2_finish_X2 hown hK hP 0 rfl rfl 5 (by decide) (hts _ qX2_finish_0) (fun _ h9 => h9) rfl dX2_finish_2 ?_
  refine lv_bipush (v := (-2)) hx hb dX2_finish_5 (by decide) ?_
  refine lv_iand hx hb dX2_finish_7 ?_
  refine lv_iconst (v := 2) hx hb dX2_finish_8 (by decide) ?_
  refine lv_ior hx hb dX2_finish_9 ?_
  refine va_put (D := (dC, dI)) (ci := 2) (v := .int (((gKW_K_st u) &&& ((-2) : Int32)) ||| (2 : Int32))) (ty := .int) (C := RX2) (T := TX2) (N := 11) hx hb hts iX2_finish_X2 tyX2 tyX2_ok nmX2 hown hK hP hD hS 0 rfl rfl 5 (by decide) (hts _ qX2_finish_0) (fun _ h9 => h9) rfl (by decide +kernel) rfl rfl (Nat.le_of_ble_eq_true rfl) dX2_finish_10 (fun H locs hP hD hS => ?_)
  obtain ⟨hP, hD⟩ := pK_K_st hP hD
  refine lv_aload_n hx hb dX2_finish_13 rfl (lv_at hl 0 rfl) ?_
  refine va_get (D := (dC, dI)) (ci := 2) (v := .int (gKW_K_call (sKW_K_st u (((gKW_K_st u) &&& ((-2) : Int32)) ||| (2 : Int32))))) (C := RX2) (T := TX2) (N := 11) hx hb hts iX2_finish_X2 hown hK hP 0 rfl rfl 4 (by decide) (hts _ qX2_finish_1) (fun _ h9 => h9) rfl dX2_finish_14 ?_
  refine lv_bipush (v := 8) hx hb dX2_finish_17 (by decide) ?_
  refine lv_iand hx hb dX2_finish_19 ?_
  refine jn_i (D := (dC, dI)) (cl := vwCl) (ws := (wK cI kO mS mA dS dA (sKW_K_st u (((gKW_K_st u) &&& ((-2) : Int32)) ||| (2 : Int32))))) (A := A) (H0 := s.heap) (nL := 1) 34 (if ((gKW_K_call (sKW_K_st u (((gKW_K_st u) &&& ((-2) : Int32)) ||| (2 : Int32)))) &&& (8 : Int32)) = (0 : Int32) then (-1) else ((gKW_K_call (sKW_K_st u (((gKW_K_st u) &&& ((-2) : Int32)) ||| (2 : Int32)))) &&& (7 : Int32)) : Int32) [(0, .ref kO)] [] (fun H locs ls hP hS hl => ?_) (fun hJ1 => ?_)
  · skip
    exact W.iret (v := (if ((gKW_K_call (sKW_K_st u (((gKW_K_st u) &&& ((-2) : Int32)) ||| (2 : Int32)))) &&& (8 : Int32)) = (0 : Int32) then (-1) else ((gKW_K_call (sKW_K_st u (((gKW_K_st u) &&& ((-2) : Int32)) ||| (2 : Int32)))) &&& (7 : Int32)) : Int32)) hx hb hr (fun t ht hW => ⟨⟨(if ((gKW_K_call (sKW_K_st u (((gKW_K_st u) &&& ((-2) : Int32)) ||| (2 : Int32)))) &&& (8 : Int32)) = (0 : Int32) then (-1) else ((gKW_K_call (sKW_K_st u (((gKW_K_st u) &&& ((-2) : Int32)) ||| (2 : Int32)))) &&& (7 : Int32)) : Int32), (sKW_K_st u (((gKW_K_st u) &&& ((-2) : Int32)) ||| (2 : Int32))), rfl, ⟨rfl, rfl⟩, by rw [ht]; exact hP, va_K.moved hW.alike hK, hD⟩, hS.F ht⟩) hS.2.2 dX2_finish_34
  · skip
    refine lv_if_eq (tgt := 33) hx hb dX2_finish_20 (by decide) (fun c2 => ?_) (fun c2 => ?_)
    · skip
      refine lv_iconst (v := (-1)) hx hb dX2_finish_33 (by decide) ?_
      exact hJ1 (-1) _ _ _ (by simp only [if_pos c2]) hP hS (lv_sub hl [0] rfl)
    · skip
      refine lv_aload_n hx hb dX2_finish_23 rfl (lv_at hl 0 rfl) ?_
      refine va_get (D := (dC, dI)) (ci := 2) (v := .int (gKW_K_call (sKW_K_st u (((gKW_K_st u) &&& ((-2) : Int32)) ||| (2 : Int32))))) (C := RX2) (T := TX2) (N := 11) hx hb hts iX2_finish_X2 hown hK hP 0 rfl rfl 4 (by decide) (hts _ qX2_finish_1) (fun _ h9 => h9) rfl dX2_finish_24 ?_
      refine lv_bipush (v := 7) hx hb dX2_finish_27 (by decide) ?_
      refine lv_iand hx hb dX2_finish_29 ?_
      refine lv_goto (tgt := 34) hx hb dX2_finish_30 (by decide) ?_
      exact hJ1 ((gKW_K_call (sKW_K_st u (((gKW_K_st u) &&& ((-2) : Int32)) ||| (2 : Int32)))) &&& (7 : Int32)) _ _ _ (by simp only [if_neg c2]) hP hS (lv_sub hl [0] rfl)

def f_X2_stateByte (u : KW) : Int32 := (gKW_K_st u)
theorem qX2_stateByte_0 : Cond.fieldLink RX2 33 "DiskMachine$Controller" "state" "I" ∈ wsX2_stateByte := by decide +kernel
theorem iX2_stateByte_X2 : ∀ w ∈ wsX20, w ∈ wsX2_stateByte := by decide +kernel
set_option maxHeartbeats 4000000 in
set_option maxRecDepth 100000 in
theorem k_X2_stateByte (l : Launch) (dC : Nat → ClassId) (dI : Nat → Nat → Nat) (cI : ClassId) (kO mS mA dS dA : Nat) (sz : Nat) (u : KW) : Met l yX2_stateByte wsX2_stateByte ({ frames := 0, cells := 0, slots := 0, locals := 0 }) (va_Pc [.ref kO] (wB dC dI [(cI, .int)] sz (wK cI kO mS mA dS dA u))) (va_Qi (fun (r : Int32) (u' : KW) => r = (f_X2_stateByte u) ∧ u' = u) (fun u' => wE dC dI [(cI, .int)] (va_A (wK cI kO mS mA dS dA u) sz) (wK cI kO mS mA dS dA u')) (va_A (wK cI kO mS mA dS dA u) sz)) 0 0 (va_A (wK cI kO mS mA dS dA u) sz) := by
  refine Met.ofW (cc := cX2_stateByte) (maxL := 1) (ret := (some .int)) (by decide) rfl ?_
  intro p e s m args below meth c s₁ B hml hv
  obtain ⟨rfl, hsz, hP, hK, hD0⟩ := hv
  have hx := B.exec
  have hb := B.bytes
  have hr := B.returns
  have hts := atoms_spec (ws := wsX2_stateByte) B.pre
  have hown : s.vm.findClass RX2 = some m.cls := findClass_of_methodNamed B.named
  have hlocks := B.notSynchronized
  subst hsz
  have hD := hD0.self (sz := s.heap.size)
  generalize hAe : va_A (wK cI kO mS mA dS dA u) s.heap.size = A at hD ⊢
  have hA : ∀ q : Nat, s.heap.size ≤ q → A q := fun q h => by rw [← hAe]; exact Or.inr h
  have hS : va_S A s.heap s.heap [] := va_S.rf
  have hP : va_P (dC, dI) vwCl (wK cI kO mS mA dS dA u) s.heap := hP
  clear hAe hD0
  have hl := lv_entry ([.ref kO]) (n := 1) (Nat.le_of_ble_eq_true rfl)
  rw [lg_entry_eq]
  generalize (lg_sl ([.ref kO]) ++ List.replicate (1 - (lg_sl ([.ref kO])).length) Slot.unset).toArray = ls at hl ⊢
  have hl : lv_has ls 1 [(0, .ref kO)] := hl
  refine jn_H hP hS (fun H locs hP hS => ?_)
  refine lv_aload_n hx hb dX2_stateByte_0 rfl (lv_at hl 0 rfl) ?_
  refine va_get (D := (dC, dI)) (ci := 2) (v := .int (gKW_K_st u)) (C := RX2) (T := TX2) (N := 11) hx hb hts iX2_stateByte_X2 hown hK hP 0 rfl rfl 5 (by decide) (hts _ qX2_stateByte_0) (fun _ h9 => h9) rfl dX2_stateByte_1 ?_
  exact W.iret (v := (gKW_K_st u)) hx hb hr (fun t ht hW => ⟨⟨(gKW_K_st u), u, rfl, ⟨rfl, rfl⟩, by rw [ht]; exact hP, va_K.moved hW.alike hK, hD⟩, hS.F ht⟩) hS.2.2 dX2_stateByte_4

def f_X2_movedCount (u : KW) : Int32 := (gKW_K_mov u)
theorem qX2_movedCount_0 : Cond.fieldLink RX2 43 "DiskMachine$Controller" "moved" "I" ∈ wsX2_movedCount := by decide +kernel
theorem iX2_movedCount_X2 : ∀ w ∈ wsX20, w ∈ wsX2_movedCount := by decide +kernel
set_option maxHeartbeats 4000000 in
set_option maxRecDepth 100000 in
theorem k_X2_movedCount (l : Launch) (dC : Nat → ClassId) (dI : Nat → Nat → Nat) (cI : ClassId) (kO mS mA dS dA : Nat) (sz : Nat) (u : KW) : Met l yX2_movedCount wsX2_movedCount ({ frames := 0, cells := 0, slots := 0, locals := 0 }) (va_Pc [.ref kO] (wB dC dI [(cI, .int)] sz (wK cI kO mS mA dS dA u))) (va_Qi (fun (r : Int32) (u' : KW) => r = (f_X2_movedCount u) ∧ u' = u) (fun u' => wE dC dI [(cI, .int)] (va_A (wK cI kO mS mA dS dA u) sz) (wK cI kO mS mA dS dA u')) (va_A (wK cI kO mS mA dS dA u) sz)) 0 0 (va_A (wK cI kO mS mA dS dA u) sz) := by
  refine Met.ofW (cc := cX2_movedCount) (maxL := 1) (ret := (some .int)) (by decide) rfl ?_
  intro p e s m args below meth c s₁ B hml hv
  obtain ⟨rfl, hsz, hP, hK, hD0⟩ := hv
  have hx := B.exec
  have hb := B.bytes
  have hr := B.returns
  have hts := atoms_spec (ws := wsX2_movedCount) B.pre
  have hown : s.vm.findClass RX2 = some m.cls := findClass_of_methodNamed B.named
  have hlocks := B.notSynchronized
  subst hsz
  have hD := hD0.self (sz := s.heap.size)
  generalize hAe : va_A (wK cI kO mS mA dS dA u) s.heap.size = A at hD ⊢
  have hA : ∀ q : Nat, s.heap.size ≤ q → A q := fun q h => by rw [← hAe]; exact Or.inr h
  have hS : va_S A s.heap s.heap [] := va_S.rf
  have hP : va_P (dC, dI) vwCl (wK cI kO mS mA dS dA u) s.heap := hP
  clear hAe hD0
  have hl := lv_entry ([.ref kO]) (n := 1) (Nat.le_of_ble_eq_true rfl)
  rw [lg_entry_eq]
  generalize (lg_sl ([.ref kO]) ++ List.replicate (1 - (lg_sl ([.ref kO])).length) Slot.unset).toArray = ls at hl ⊢
  have hl : lv_has ls 1 [(0, .ref kO)] := hl
  refine jn_H hP hS (fun H locs hP hS => ?_)
  refine lv_aload_n hx hb dX2_movedCount_0 rfl (lv_at hl 0 rfl) ?_
  refine va_get (D := (dC, dI)) (ci := 2) (v := .int (gKW_K_mov u)) (C := RX2) (T := TX2) (N := 11) hx hb hts iX2_movedCount_X2 hown hK hP 0 rfl rfl 8 (by decide) (hts _ qX2_movedCount_0) (fun _ h9 => h9) rfl dX2_movedCount_1 ?_
  exact W.iret (v := (gKW_K_mov u)) hx hb hr (fun t ht hW => ⟨⟨(gKW_K_mov u), u, rfl, ⟨rfl, rfl⟩, by rw [ht]; exact hP, va_K.moved hW.alike hK, hD⟩, hS.F ht⟩) hS.2.2 dX2_movedCount_4

def f_X2_addressWord (u : KW) : Int32 := (gKW_K_adr u)
theorem qX2_addressWord_0 : Cond.fieldLink RX2 22 "DiskMachine$Controller" "address" "I" ∈ wsX2_addressWord := by decide +kernel
theorem iX2_addressWord_X2 : ∀ w ∈ wsX20, w ∈ wsX2_addressWord := by decide +kernel
set_option maxHeartbeats 4000000 in
set_option maxRecDepth 100000 in
theorem k_X2_addressWord (l : Launch) (dC : Nat → ClassId) (dI : Nat → Nat → Nat) (cI : ClassId) (kO mS mA dS dA : Nat) (sz : Nat) (u : KW) : Met l yX2_addressWord wsX2_addressWord ({ frames := 0, cells := 0, slots := 0, locals := 0 }) (va_Pc [.ref kO] (wB dC dI [(cI, .int)] sz (wK cI kO mS mA dS dA u))) (va_Qi (fun (r : Int32) (u' : KW) => r = (f_X2_addressWord u) ∧ u' = u) (fun u' => wE dC dI [(cI, .int)] (va_A (wK cI kO mS mA dS dA u) sz) (wK cI kO mS mA dS dA u')) (va_A (wK cI kO mS mA dS dA u) sz)) 0 0 (va_A (wK cI kO mS mA dS dA u) sz) := by
  refine Met.ofW (cc := cX2_addressWord) (maxL := 1) (ret := (some .int)) (by decide) rfl ?_
  intro p e s m args below meth c s₁ B hml hv
  obtain ⟨rfl, hsz, hP, hK, hD0⟩ := hv
  have hx := B.exec
  have hb := B.bytes
  have hr := B.returns
  have hts := atoms_spec (ws := wsX2_addressWord) B.pre
  have hown : s.vm.findClass RX2 = some m.cls := findClass_of_methodNamed B.named
  have hlocks := B.notSynchronized
  subst hsz
  have hD := hD0.self (sz := s.heap.size)
  generalize hAe : va_A (wK cI kO mS mA dS dA u) s.heap.size = A at hD ⊢
  have hA : ∀ q : Nat, s.heap.size ≤ q → A q := fun q h => by rw [← hAe]; exact Or.inr h
  have hS : va_S A s.heap s.heap [] := va_S.rf
  have hP : va_P (dC, dI) vwCl (wK cI kO mS mA dS dA u) s.heap := hP
  clear hAe hD0
  have hl := lv_entry ([.ref kO]) (n := 1) (Nat.le_of_ble_eq_true rfl)
  rw [lg_entry_eq]
  generalize (lg_sl ([.ref kO]) ++ List.replicate (1 - (lg_sl ([.ref kO])).length) Slot.unset).toArray = ls at hl ⊢
  have hl : lv_has ls 1 [(0, .ref kO)] := hl
  refine jn_H hP hS (fun H locs hP hS => ?_)
  refine lv_aload_n hx hb dX2_addressWord_0 rfl (lv_at hl 0 rfl) ?_
  refine va_get (D := (dC, dI)) (ci := 2) (v := .int (gKW_K_adr u)) (C := RX2) (T := TX2) (N := 11) hx hb hts iX2_addressWord_X2 hown hK hP 0 rfl rfl 3 (by decide) (hts _ qX2_addressWord_0) (fun _ h9 => h9) rfl dX2_addressWord_1 ?_
  exact W.iret (v := (gKW_K_adr u)) hx hb hr (fun t ht hW => ⟨⟨(gKW_K_adr u), u, rfl, ⟨rfl, rfl⟩, by rw [ht]; exact hP, va_K.moved hW.alike hK, hD⟩, hS.F ht⟩) hS.2.2 dX2_addressWord_4
