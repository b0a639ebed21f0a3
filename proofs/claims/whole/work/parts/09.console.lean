def f_X1_takeKey (u : CS) (a1 : Int32) : Int32 × CS := 
  if (gCS_cnt u) < (64 : Int32) then ((gCS_cnt (sCS_cnt (sCS_inp u (upd (gCS_inp u) ((((gCS_fst u) + (gCS_cnt u)) - ((gCS_fst u) + (gCS_cnt u)) / (64 : Int32) * (64 : Int32)) : Int32).toNatClampNeg a1)) ((gCS_cnt (sCS_inp u (upd (gCS_inp u) ((((gCS_fst u) + (gCS_cnt u)) - ((gCS_fst u) + (gCS_cnt u)) / (64 : Int32) * (64 : Int32)) : Int32).toNatClampNeg a1))) + (1 : Int32)))), (sCS_cnt (sCS_inp u (upd (gCS_inp u) ((((gCS_fst u) + (gCS_cnt u)) - ((gCS_fst u) + (gCS_cnt u)) / (64 : Int32) * (64 : Int32)) : Int32).toNatClampNeg a1)) ((gCS_cnt (sCS_inp u (upd (gCS_inp u) ((((gCS_fst u) + (gCS_cnt u)) - ((gCS_fst u) + (gCS_cnt u)) / (64 : Int32) * (64 : Int32)) : Int32).toNatClampNeg a1))) + (1 : Int32))))
  else ((-1), u)
theorem qX1_takeKey_0 : Cond.fieldLink RX1 18 "DiskMachine$Console" "inputCount" "I" ∈ wsX1_takeKey := by decide +kernel
theorem qX1_takeKey_1 : Cond.fieldLink RX1 11 "DiskMachine$Console" "input" "[I" ∈ wsX1_takeKey := by decide +kernel
theorem qX1_takeKey_2 : Cond.fieldLink RX1 22 "DiskMachine$Console" "firstInput" "I" ∈ wsX1_takeKey := by decide +kernel
theorem iX1_takeKey_X1 : ∀ w ∈ wsX10, w ∈ wsX1_takeKey := by decide +kernel
set_option maxHeartbeats 4000000 in
set_option maxRecDepth 100000 in
theorem k_X1_takeKey (l : Launch) (dC : Nat → ClassId) (dI : Nat → Nat → Nat) (cI : ClassId) (cO iA oA : Nat) (sz : Nat) (u : CS) (a1 : Int32) (hC : ∃ i j : Nat, i < 64 ∧ j ≤ 64 ∧ gCS_fst u = nI i ∧ gCS_cnt u = nI j) : Met l yX1_takeKey wsX1_takeKey ({ frames := 0, cells := 0, slots := 0, locals := 0 }) (va_Pc [.ref cO, .int a1] (wB dC dI [(cI, .int)] sz (wC cI cO iA oA u))) (va_Qi (fun (r : Int32) (u' : CS) => r = (f_X1_takeKey u a1).1 ∧ u' = (f_X1_takeKey u a1).2) (fun u' => wE dC dI [(cI, .int)] (va_A (wC cI cO iA oA u) sz) (wC cI cO iA oA u')) (va_A (wC cI cO iA oA u) sz)) 0 0 (va_A (wC cI cO iA oA u) sz) := by
  refine Met.ofW (cc := cX1_takeKey) (maxL := 2) (ret := (some .int)) (by decide) rfl ?_
  intro p e s m args below meth c s₁ B hml hv
  obtain ⟨rfl, hsz, hP, hK, hD0⟩ := hv
  have hx := B.exec
  have hb := B.bytes
  have hr := B.returns
  have hts := atoms_spec (ws := wsX1_takeKey) B.pre
  have hown : s.vm.findClass RX1 = some m.cls := findClass_of_methodNamed B.named
  have hlocks := B.notSynchronized
  subst hsz
  have hD := hD0.self (sz := s.heap.size)
  generalize hAe : va_A (wC cI cO iA oA u) s.heap.size = A at hD ⊢
  have hA : ∀ q : Nat, s.heap.size ≤ q → A q := fun q h => by rw [← hAe]; exact Or.inr h
  have hS : va_S A s.heap s.heap [] := va_S.rf
  have hP : va_P (dC, dI) vwCl (wC cI cO iA oA u) s.heap := hP
  clear hAe hD0
  have hl := lv_entry ([.ref cO, .int a1]) (n := 2) (Nat.le_of_ble_eq_true rfl)
  rw [lg_entry_eq]
  generalize (lg_sl ([.ref cO, .int a1]) ++ List.replicate (2 - (lg_sl ([.ref cO, .int a1])).length) Slot.unset).toArray = ls at hl ⊢
  have hl : lv_has ls 2 [(0, .ref cO), (1, .int a1)] := hl
  refine jn_H hP hS (fun H locs hP hS => ?_)
  refine lv_aload_n hx hb dX1_takeKey_0 rfl (lv_at hl 0 rfl) ?_
  refine va_get (D := (dC, dI)) (ci := 1) (v := .int (gCS_cnt u)) (C := RX1) (T := TX1) (N := 5) hx hb hts iX1_takeKey_X1 hown hK hP 0 rfl rfl 2 (by decide) (hts _ qX1_takeKey_0) (fun _ h9 => h9) rfl dX1_takeKey_1 ?_
  refine lv_bipush (v := 64) hx hb dX1_takeKey_4 (by decide) ?_
  refine lv_icmp_lt (tgt := 11) hx hb dX1_takeKey_6 (by decide) (fun c1 => ?_) (fun c1 => ?_)
  · skip
    refine lv_aload_n hx hb dX1_takeKey_11 rfl (lv_at hl 0 rfl) ?_
    refine va_get (D := (dC, dI)) (ci := 1) (v := .ref iA) (C := RX1) (T := TX1) (N := 5) hx hb hts iX1_takeKey_X1 hown hK hP 0 rfl rfl 0 (by decide) (hts _ qX1_takeKey_1) (fun _ h9 => h9) rfl dX1_takeKey_12 ?_
    refine lv_aload_n hx hb dX1_takeKey_15 rfl (lv_at hl 0 rfl) ?_
    refine va_get (D := (dC, dI)) (ci := 1) (v := .int (gCS_fst u)) (C := RX1) (T := TX1) (N := 5) hx hb hts iX1_takeKey_X1 hown hK hP 0 rfl rfl 1 (by decide) (hts _ qX1_takeKey_2) (fun _ h9 => h9) rfl dX1_takeKey_16 ?_
    refine lv_aload_n hx hb dX1_takeKey_19 rfl (lv_at hl 0 rfl) ?_
    refine va_get (D := (dC, dI)) (ci := 1) (v := .int (gCS_cnt u)) (C := RX1) (T := TX1) (N := 5) hx hb hts iX1_takeKey_X1 hown hK hP 0 rfl rfl 2 (by decide) (hts _ qX1_takeKey_0) (fun _ h9 => h9) rfl dX1_takeKey_20 ?_
    refine lv_iadd hx hb dX1_takeKey_23 ?_
    refine lv_bipush (v := 64) hx hb dX1_takeKey_24 (by decide) ?_
    refine lv_irem hx hb dX1_takeKey_26 (by decide) ?_
    refine lv_iload_n hx hb dX1_takeKey_27 rfl (lv_at hl 1 rfl) ?_
    refine va_iast (f := (gCS_inp u)) hx hb hK hP hD hS 1 0 rfl rfl (ix_ring hC) dX1_takeKey_28 (fun H locs hP hD hS => ?_)
    obtain ⟨hP, hD⟩ := aC_iA hP hD
    refine lv_aload_n hx hb dX1_takeKey_29 rfl (lv_at hl 0 rfl) ?_
    refine lv_dup hx hb dX1_takeKey_30 rfl ?_
    refine va_get (D := (dC, dI)) (ci := 1) (v := .int (gCS_cnt (sCS_inp u (upd (gCS_inp u) ((((gCS_fst u) + (gCS_cnt u)) - ((gCS_fst u) + (gCS_cnt u)) / (64 : Int32) * (64 : Int32)) : Int32).toNatClampNeg a1)))) (C := RX1) (T := TX1) (N := 5) hx hb hts iX1_takeKey_X1 hown hK hP 0 rfl rfl 2 (by decide) (hts _ qX1_takeKey_0) (fun _ h9 => h9) rfl dX1_takeKey_31 ?_
    refine lv_iconst (v := 1) hx hb dX1_takeKey_34 (by decide) ?_
    refine lv_iadd hx hb dX1_takeKey_35 ?_
    refine va_put (D := (dC, dI)) (ci := 1) (v := .int ((gCS_cnt (sCS_inp u (upd (gCS_inp u) ((((gCS_fst u) + (gCS_cnt u)) - ((gCS_fst u) + (gCS_cnt u)) / (64 : Int32) * (64 : Int32)) : Int32).toNatClampNeg a1))) + (1 : Int32))) (ty := .int) (C := RX1) (T := TX1) (N := 5) hx hb hts iX1_takeKey_X1 tyX1 tyX1_ok nmX1 hown hK hP hD hS 0 rfl rfl 2 (by decide) (hts _ qX1_takeKey_0) (fun _ h9 => h9) rfl (by decide +kernel) rfl rfl (Nat.le_of_ble_eq_true rfl) dX1_takeKey_36 (fun H locs hP hD hS => ?_)
    obtain ⟨hP, hD⟩ := pC_cnt hP hD
    refine lv_aload_n hx hb dX1_takeKey_39 rfl (lv_at hl 0 rfl) ?_
    refine va_get (D := (dC, dI)) (ci := 1) (v := .int (gCS_cnt (sCS_cnt (sCS_inp u (upd (gCS_inp u) ((((gCS_fst u) + (gCS_cnt u)) - ((gCS_fst u) + (gCS_cnt u)) / (64 : Int32) * (64 : Int32)) : Int32).toNatClampNeg a1)) ((gCS_cnt (sCS_inp u (upd (gCS_inp u) ((((gCS_fst u) + (gCS_cnt u)) - ((gCS_fst u) + (gCS_cnt u)) / (64 : Int32) * (64 : Int32)) : Int32).toNatClampNeg a1))) + (1 : Int32))))) (C := RX1) (T := TX1) (N := 5) hx hb hts iX1_takeKey_X1 hown hK hP 0 rfl rfl 2 (by decide) (hts _ qX1_takeKey_0) (fun _ h9 => h9) rfl dX1_takeKey_40 ?_
    exact W.iret (v := (gCS_cnt (sCS_cnt (sCS_inp u (upd (gCS_inp u) ((((gCS_fst u) + (gCS_cnt u)) - ((gCS_fst u) + (gCS_cnt u)) / (64 : Int32) * (64 : Int32)) : Int32).toNatClampNeg a1)) ((gCS_cnt (sCS_inp u (upd (gCS_inp u) ((((gCS_fst u) + (gCS_cnt u)) - ((gCS_fst u) + (gCS_cnt u)) / (64 : Int32) * (64 : Int32)) : Int32).toNatClampNeg a1))) + (1 : Int32))))) hx hb hr (fun t ht hW => ⟨⟨(gCS_cnt (sCS_cnt (sCS_inp u (upd (gCS_inp u) ((((gCS_fst u) + (gCS_cnt u)) - ((gCS_fst u) + (gCS_cnt u)) / (64 : Int32) * (64 : Int32)) : Int32).toNatClampNeg a1)) ((gCS_cnt (sCS_inp u (upd (gCS_inp u) ((((gCS_fst u) + (gCS_cnt u)) - ((gCS_fst u) + (gCS_cnt u)) / (64 : Int32) * (64 : Int32)) : Int32).toNatClampNeg a1))) + (1 : Int32)))), (sCS_cnt (sCS_inp u (upd (gCS_inp u) ((((gCS_fst u) + (gCS_cnt u)) - ((gCS_fst u) + (gCS_cnt u)) / (64 : Int32) * (64 : Int32)) : Int32).toNatClampNeg a1)) ((gCS_cnt (sCS_inp u (upd (gCS_inp u) ((((gCS_fst u) + (gCS_cnt u)) - ((gCS_fst u) + (gCS_cnt u)) / (64 : Int32) * (64 : Int32)) : Int32).toNatClampNeg a1))) + (1 : Int32))), rfl, ⟨(by simp only [f_X1_takeKey, if_pos c1]), (by simp only [f_X1_takeKey, if_pos c1])⟩, by rw [ht]; exact hP, va_K.moved hW.alike hK, hD⟩, hS.F ht⟩) hS.2.2 dX1_takeKey_43
  · skip
    refine lv_iconst (v := (-1)) hx hb dX1_takeKey_9 (by decide) ?_
    exact W.iret (v := (-1)) hx hb hr (fun t ht hW => ⟨⟨(-1), u, rfl, ⟨(by simp only [f_X1_takeKey, if_neg c1]), (by simp only [f_X1_takeKey, if_neg c1])⟩, by rw [ht]; exact hP, va_K.moved hW.alike hK, hD⟩, hS.F ht⟩) hS.2.2 dX1_takeKey_10

def f_X1_hasInput (u : CS) : Bool := (if (gCS_cnt u) ≤ (0 : Int32) then false else true : Bool)
theorem qX1_hasInput_0 : Cond.fieldLink RX1 18 "DiskMachine$Console" "inputCount" "I" ∈ wsX1_hasInput := by decide +kernel
theorem iX1_hasInput_X1 : ∀ w ∈ wsX10, w ∈ wsX1_hasInput := by decide +kernel
set_option maxHeartbeats 4000000 in
set_option maxRecDepth 100000 in
theorem k_X1_hasInput (l : Launch) (dC : Nat → ClassId) (dI : Nat → Nat → Nat) (cI : ClassId) (cO iA oA : Nat) (sz : Nat) (u : CS) : Met l yX1_hasInput wsX1_hasInput ({ frames := 0, cells := 0, slots := 0, locals := 0 }) (va_Pc [.ref cO] (wB dC dI [(cI, .int)] sz (wC cI cO iA oA u))) (va_Qi (fun (r : Int32) (u' : CS) => r = (bI (f_X1_hasInput u)) ∧ u' = u) (fun u' => wE dC dI [(cI, .int)] (va_A (wC cI cO iA oA u) sz) (wC cI cO iA oA u')) (va_A (wC cI cO iA oA u) sz)) 0 0 (va_A (wC cI cO iA oA u) sz) := by
  refine Met.ofW (cc := cX1_hasInput) (maxL := 1) (ret := (some .boolean)) (by decide) rfl ?_
  intro p e s m args below meth c s₁ B hml hv
  obtain ⟨rfl, hsz, hP, hK, hD0⟩ := hv
  have hx := B.exec
  have hb := B.bytes
  have hr := B.returns
  have hts := atoms_spec (ws := wsX1_hasInput) B.pre
  have hown : s.vm.findClass RX1 = some m.cls := findClass_of_methodNamed B.named
  have hlocks := B.notSynchronized
  subst hsz
  have hD := hD0.self (sz := s.heap.size)
  generalize hAe : va_A (wC cI cO iA oA u) s.heap.size = A at hD ⊢
  have hA : ∀ q : Nat, s.heap.size ≤ q → A q := fun q h => by rw [← hAe]; exact Or.inr h
  have hS : va_S A s.heap s.heap [] := va_S.rf
  have hP : va_P (dC, dI) vwCl (wC cI cO iA oA u) s.heap := hP
  clear hAe hD0
  have hl := lv_entry ([.ref cO]) (n := 1) (Nat.le_of_ble_eq_true rfl)
  rw [lg_entry_eq]
  generalize (lg_sl ([.ref cO]) ++ List.replicate (1 - (lg_sl ([.ref cO])).length) Slot.unset).toArray = ls at hl ⊢
  have hl : lv_has ls 1 [(0, .ref cO)] := hl
  refine jn_H hP hS (fun H locs hP hS => ?_)
  refine lv_aload_n hx hb dX1_hasInput_0 rfl (lv_at hl 0 rfl) ?_
  refine va_get (D := (dC, dI)) (ci := 1) (v := .int (gCS_cnt u)) (C := RX1) (T := TX1) (N := 5) hx hb hts iX1_hasInput_X1 hown hK hP 0 rfl rfl 2 (by decide) (hts _ qX1_hasInput_0) (fun _ h9 => h9) rfl dX1_hasInput_1 ?_
  refine jn_b (D := (dC, dI)) (cl := vwCl) (ws := (wC cI cO iA oA u)) (A := A) (H0 := s.heap) (nL := 1) 12 (if (gCS_cnt u) ≤ (0 : Int32) then false else true : Bool) [(0, .ref cO)] [] (fun H locs ls hP hS hl => ?_) (fun hJ1 => ?_)
  · skip
    exact W.zret (v := (bI (if (gCS_cnt u) ≤ (0 : Int32) then false else true : Bool))) hx hb hr (bI_nar (if (gCS_cnt u) ≤ (0 : Int32) then false else true : Bool)) (fun t ht hW => ⟨⟨(bI (if (gCS_cnt u) ≤ (0 : Int32) then false else true : Bool)), u, rfl, ⟨rfl, rfl⟩, by rw [ht]; exact hP, va_K.moved hW.alike hK, hD⟩, hS.F ht⟩) hS.2.2 dX1_hasInput_12
  · skip
    refine lv_if_le (tgt := 11) hx hb dX1_hasInput_4 (by decide) (fun c2 => ?_) (fun c2 => ?_)
    · skip
      refine lv_iconst (v := 0) hx hb dX1_hasInput_11 (by decide) ?_
      exact hJ1 false _ _ _ (by simp only [if_pos c2]) hP hS (lv_sub hl [0] rfl)
    · skip
      refine lv_iconst (v := 1) hx hb dX1_hasInput_7 (by decide) ?_
      refine lv_goto (tgt := 12) hx hb dX1_hasInput_8 (by decide) ?_
      exact hJ1 true _ _ _ (by simp only [if_neg c2]) hP hS (lv_sub hl [0] rfl)

def f_X1_nextInput (u : CS) : Int32 × CS := 
  if (gCS_cnt u) = (0 : Int32) then (0, u)
  else (((gCS_inp u) ((gCS_fst u) : Int32).toNatClampNeg), (sCS_cnt (sCS_fst u (((gCS_fst u) + (1 : Int32)) - ((gCS_fst u) + (1 : Int32)) / (64 : Int32) * (64 : Int32))) ((gCS_cnt (sCS_fst u (((gCS_fst u) + (1 : Int32)) - ((gCS_fst u) + (1 : Int32)) / (64 : Int32) * (64 : Int32)))) - (1 : Int32))))
theorem qX1_nextInput_0 : Cond.fieldLink RX1 18 "DiskMachine$Console" "inputCount" "I" ∈ wsX1_nextInput := by decide +kernel
theorem qX1_nextInput_1 : Cond.fieldLink RX1 11 "DiskMachine$Console" "input" "[I" ∈ wsX1_nextInput := by decide +kernel
theorem qX1_nextInput_2 : Cond.fieldLink RX1 22 "DiskMachine$Console" "firstInput" "I" ∈ wsX1_nextInput := by decide +kernel
theorem iX1_nextInput_X1 : ∀ w ∈ wsX10, w ∈ wsX1_nextInput := by decide +kernel
set_option maxHeartbeats 4000000 in
set_option maxRecDepth 100000 in
theorem k_X1_nextInput (l : Launch) (dC : Nat → ClassId) (dI : Nat → Nat → Nat) (cI : ClassId) (cO iA oA : Nat) (sz : Nat) (u : CS) (hC : ∃ i j : Nat, i < 64 ∧ j ≤ 64 ∧ gCS_fst u = nI i ∧ gCS_cnt u = nI j) : Met l yX1_nextInput wsX1_nextInput ({ frames := 0, cells := 0, slots := 0, locals := 0 }) (va_Pc [.ref cO] (wB dC dI [(cI, .int)] sz (wC cI cO iA oA u))) (va_Qi (fun (r : Int32) (u' : CS) => r = (f_X1_nextInput u).1 ∧ u' = (f_X1_nextInput u).2) (fun u' => wE dC dI [(cI, .int)] (va_A (wC cI cO iA oA u) sz) (wC cI cO iA oA u')) (va_A (wC cI cO iA oA u) sz)) 0 0 (va_A (wC cI cO iA oA u) sz) := by
  refine Met.ofW (cc := cX1_nextInput) (maxL := 2) (ret := (some .int)) (by decide) rfl ?_
  intro p e s m args below meth c s₁ B hml hv
  obtain ⟨rfl, hsz, hP, hK, hD0⟩ := hv
  have hx := B.exec
  have hb := B.bytes
  have hr := B.returns
  have hts := atoms_spec (ws := wsX1_nextInput) B.pre
  have hown : s.vm.findClass RX1 = some m.cls := findClass_of_methodNamed B.named
  have hlocks := B.notSynchronized
  subst hsz
  have hD := hD0.self (sz := s.heap.size)
  generalize hAe : va_A (wC cI cO iA oA u) s.heap.size = A at hD ⊢
  have hA : ∀ q : Nat, s.heap.size ≤ q → A q := fun q h => by rw [← hAe]; exact Or.inr h
  have hS : va_S A s.heap s.heap [] := va_S.rf
  have hP : va_P (dC, dI) vwCl (wC cI cO iA oA u) s.heap := hP
  clear hAe hD0
  have hl := lv_entry ([.ref cO]) (n := 2) (Nat.le_of_ble_eq_true rfl)
  rw [lg_entry_eq]
  generalize (lg_sl ([.ref cO]) ++ List.replicate (2 - (lg_sl ([.ref cO])).length) Slot.unset).toArray = ls at hl ⊢
  have hl : lv_has ls 2 [(0, .ref cO)] := hl
  refine jn_H hP hS (fun H locs hP hS => ?_)
  refine lv_aload_n hx hb dX1_nextInput_0 rfl (lv_at hl 0 rfl) ?_
  refine va_get (D := (dC, dI)) (ci := 1) (v := .int (gCS_cnt u)) (C := RX1) (T := TX1) (N := 5) hx hb hts iX1_nextInput_X1 hown hK hP 0 rfl rfl 2 (by decide) (hts _ qX1_nextInput_0) (fun _ h9 => h9) rfl dX1_nextInput_1 ?_
  refine lv_if_ne (tgt := 9) hx hb dX1_nextInput_4 (by decide) (fun c1 => ?_) (fun c1 => ?_)
  · skip
    refine lv_aload_n hx hb dX1_nextInput_9 rfl (lv_at hl 0 rfl) ?_
    refine va_get (D := (dC, dI)) (ci := 1) (v := .ref iA) (C := RX1) (T := TX1) (N := 5) hx hb hts iX1_nextInput_X1 hown hK hP 0 rfl rfl 0 (by decide) (hts _ qX1_nextInput_1) (fun _ h9 => h9) rfl dX1_nextInput_10 ?_
    refine lv_aload_n hx hb dX1_nextInput_13 rfl (lv_at hl 0 rfl) ?_
    refine va_get (D := (dC, dI)) (ci := 1) (v := .int (gCS_fst u)) (C := RX1) (T := TX1) (N := 5) hx hb hts iX1_nextInput_X1 hown hK hP 0 rfl rfl 1 (by decide) (hts _ qX1_nextInput_2) (fun _ h9 => h9) rfl dX1_nextInput_14 ?_
    refine va_iald (f := (gCS_inp u)) hx hb hK hP 1 0 rfl rfl (ix_fst hC) dX1_nextInput_17 ?_
    refine lv_istore_n (lv' := [(1, .int ((gCS_inp u) ((gCS_fst u) : Int32).toNatClampNeg)), (0, .ref cO)]) hx hb dX1_nextInput_18 rfl hl (by decide) rfl (fun ls hl => ?_)
    refine lv_aload_n hx hb dX1_nextInput_19 rfl (lv_at hl 1 rfl) ?_
    refine lv_aload_n hx hb dX1_nextInput_20 rfl (lv_at hl 1 rfl) ?_
    refine va_get (D := (dC, dI)) (ci := 1) (v := .int (gCS_fst u)) (C := RX1) (T := TX1) (N := 5) hx hb hts iX1_nextInput_X1 hown hK hP 0 rfl rfl 1 (by decide) (hts _ qX1_nextInput_2) (fun _ h9 => h9) rfl dX1_nextInput_21 ?_
    refine lv_iconst (v := 1) hx hb dX1_nextInput_24 (by decide) ?_
    refine lv_iadd hx hb dX1_nextInput_25 ?_
    refine lv_bipush (v := 64) hx hb dX1_nextInput_26 (by decide) ?_
    refine lv_irem hx hb dX1_nextInput_28 (by decide) ?_
    refine va_put (D := (dC, dI)) (ci := 1) (v := .int (((gCS_fst u) + (1 : Int32)) - ((gCS_fst u) + (1 : Int32)) / (64 : Int32) * (64 : Int32))) (ty := .int) (C := RX1) (T := TX1) (N := 5) hx hb hts iX1_nextInput_X1 tyX1 tyX1_ok nmX1 hown hK hP hD hS 0 rfl rfl 1 (by decide) (hts _ qX1_nextInput_2) (fun _ h9 => h9) rfl (by decide +kernel) rfl rfl (Nat.le_of_ble_eq_true rfl) dX1_nextInput_29 (fun H locs hP hD hS => ?_)
    obtain ⟨hP, hD⟩ := pC_fst hP hD
    refine lv_aload_n hx hb dX1_nextInput_32 rfl (lv_at hl 1 rfl) ?_
    refine lv_dup hx hb dX1_nextInput_33 rfl ?_
    refine va_get (D := (dC, dI)) (ci := 1) (v := .int (gCS_cnt (sCS_fst u (((gCS_fst u) + (1 : Int32)) - ((gCS_fst u) + (1 : Int32)) / (64 : Int32) * (64 : Int32))))) (C := RX1) (T := TX1) (N := 5) hx hb hts iX1_nextInput_X1 hown hK hP 0 rfl rfl 2 (by decide) (hts _ qX1_nextInput_0) (fun _ h9 => h9) rfl dX1_nextInput_34 ?_
    refine lv_iconst (v := 1) hx hb dX1_nextInput_37 (by decide) ?_
    refine lv_isub hx hb dX1_nextInput_38 ?_
    refine va_put (D := (dC, dI)) (ci := 1) (v := .int ((gCS_cnt (sCS_fst u (((gCS_fst u) + (1 : Int32)) - ((gCS_fst u) + (1 : Int32)) / (64 : Int32) * (64 : Int32)))) - (1 : Int32))) (ty := .int) (C := RX1) (T := TX1) (N := 5) hx hb hts iX1_nextInput_X1 tyX1 tyX1_ok nmX1 hown hK hP hD hS 0 rfl rfl 2 (by decide) (hts _ qX1_nextInput_0) (fun _ h9 => h9) rfl (by decide +kernel) rfl rfl (Nat.le_of_ble_eq_true rfl) dX1_nextInput_39 (fun H locs hP hD hS => ?_)
    obtain ⟨hP, hD⟩ := pC_cnt hP hD
    refine lv_iload_n hx hb dX1_nextInput_42 rfl (lv_at hl 0 rfl) ?_
    exact W.iret (v := ((gCS_inp u) ((gCS_fst u) : Int32).toNatClampNeg)) hx hb hr (fun t ht hW => ⟨⟨((gCS_inp u) ((gCS_fst u) : Int32).toNatClampNeg), (sCS_cnt (sCS_fst u (((gCS_fst u) + (1 : Int32)) - ((gCS_fst u) + (1 : Int32)) / (64 : Int32) * (64 : Int32))) ((gCS_cnt (sCS_fst u (((gCS_fst u) + (1 : Int32)) - ((gCS_fst u) + (1 : Int32)) / (64 : Int32) * (64 : Int32)))) - (1 : Int32))), rfl, ⟨(by simp only [f_X1_nextInput, if_neg c1]), (by simp only [f_X1_nextInput, if_neg c1])⟩, by rw [ht]; exact hP, va_K.moved hW.alike hK, hD⟩, hS.F ht⟩) hS.2.2 dX1_nextInput_43
  · skip
    refine lv_iconst (v := 0) hx hb dX1_nextInput_7 (by decide) ?_
    exact W.iret (v := 0) hx hb hr (fun t ht hW => ⟨⟨0, u, rfl, ⟨(by simp only [f_X1_nextInput, if_pos c1]), (by simp only [f_X1_nextInput, if_pos c1])⟩, by rw [ht]; exact hP, va_K.moved hW.alike hK, hD⟩, hS.F ht⟩) hS.2.2 dX1_nextInput_8

def f_X1_append (u : CS) (a1 : Int32) : CS := (sCS_oc (sCS_out u (upd (gCS_out u) (((gCS_oc u) &&& (255 : Int32)) : Int32).toNatClampNeg a1)) ((gCS_oc (sCS_out u (upd (gCS_out u) (((gCS_oc u) &&& (255 : Int32)) : Int32).toNatClampNeg a1))) + (1 : Int32)))
theorem qX1_append_0 : Cond.fieldLink RX1 15 "DiskMachine$Console" "output" "[I" ∈ wsX1_append := by decide +kernel
theorem qX1_append_1 : Cond.fieldLink RX1 25 "DiskMachine$Console" "outputCount" "I" ∈ wsX1_append := by decide +kernel
theorem iX1_append_X1 : ∀ w ∈ wsX10, w ∈ wsX1_append := by decide +kernel
set_option maxHeartbeats 4000000 in
set_option maxRecDepth 100000 in
theorem k_X1_append (l : Launch) (dC : Nat → ClassId) (dI : Nat → Nat → Nat) (cI : ClassId) (cO iA oA : Nat) (sz : Nat) (u : CS) (a1 : Int32) : Met l yX1_append wsX1_append ({ frames := 0, cells := 0, slots := 0, locals := 0 }) (va_Pc [.ref cO, .int a1] (wB dC dI [(cI, .int)] sz (wC cI cO iA oA u))) (va_Qv (fun u' : CS => u' = (f_X1_append u a1)) (fun u' => wE dC dI [(cI, .int)] (va_A (wC cI cO iA oA u) sz) (wC cI cO iA oA u')) (va_A (wC cI cO iA oA u) sz)) 0 0 (va_A (wC cI cO iA oA u) sz) := by
  refine Met.ofW (cc := cX1_append) (maxL := 2) (ret := none) (by decide) rfl ?_
  intro p e s m args below meth c s₁ B hml hv
  obtain ⟨rfl, hsz, hP, hK, hD0⟩ := hv
  have hx := B.exec
  have hb := B.bytes
  have hr := B.returns
  have hts := atoms_spec (ws := wsX1_append) B.pre
  have hown : s.vm.findClass RX1 = some m.cls := findClass_of_methodNamed B.named
  have hlocks := B.notSynchronized
  subst hsz
  have hD := hD0.self (sz := s.heap.size)
  generalize hAe : va_A (wC cI cO iA oA u) s.heap.size = A at hD ⊢
  have hA : ∀ q : Nat, s.heap.size ≤ q → A q := fun q h => by rw [← hAe]; exact Or.inr h
  have hS : va_S A s.heap s.heap [] := va_S.rf
  have hP : va_P (dC, dI) vwCl (wC cI cO iA oA u) s.heap := hP
  clear hAe hD0
  have hl := lv_entry ([.ref cO, .int a1]) (n := 2) (Nat.le_of_ble_eq_true rfl)
  rw [lg_entry_eq]
  generalize (lg_sl ([.ref cO, .int a1]) ++ List.replicate (2 - (lg_sl ([.ref cO, .int a1])).length) Slot.unset).toArray = ls at hl ⊢
  have hl : lv_has ls 2 [(0, .ref cO), (1, .int a1)] := hl
  refine jn_H hP hS (fun H locs hP hS => ?_)
  refine lv_aload_n hx hb dX1_append_0 rfl (lv_at hl 0 rfl) ?_
  refine va_get (D := (dC, dI)) (ci := 1) (v := .ref oA) (C := RX1) (T := TX1) (N := 5) hx hb hts iX1_append_X1 hown hK hP 0 rfl rfl 3 (by decide) (hts _ qX1_append_0) (fun _ h9 => h9) rfl dX1_append_1 ?_
  refine lv_aload_n hx hb dX1_append_4 rfl (lv_at hl 0 rfl) ?_
  refine va_get (D := (dC, dI)) (ci := 1) (v := .int (gCS_oc u)) (C := RX1) (T := TX1) (N := 5) hx hb hts iX1_append_X1 hown hK hP 0 rfl rfl 4 (by decide) (hts _ qX1_append_1) (fun _ h9 => h9) rfl dX1_append_5 ?_
  refine lv_sipush (v := 255) hx hb dX1_append_8 (by decide) ?_
  refine lv_iand hx hb dX1_append_11 ?_
  refine lv_iload_n hx hb dX1_append_12 rfl (lv_at hl 1 rfl) ?_
  refine va_iast (f := (gCS_out u)) hx hb hK hP hD hS 2 0 rfl rfl (ix_256 _) dX1_append_13 (fun H locs hP hD hS => ?_)
  obtain ⟨hP, hD⟩ := aC_oA hP hD
  refine lv_aload_n hx hb dX1_append_14 rfl (lv_at hl 0 rfl) ?_
  refine lv_dup hx hb dX1_append_15 rfl ?_
  refine va_get (D := (dC, dI)) (ci := 1) (v := .int (gCS_oc (sCS_out u (upd (gCS_out u) (((gCS_oc u) &&& (255 : Int32)) : Int32).toNatClampNeg a1)))) (C := RX1) (T := TX1) (N := 5) hx hb hts iX1_append_X1 hown hK hP 0 rfl rfl 4 (by decide) (hts _ qX1_append_1) (fun _ h9 => h9) rfl dX1_append_16 ?_
  refine lv_iconst (v := 1) hx hb dX1_append_19 (by decide) ?_
  refine lv_iadd hx hb dX1_append_20 ?_
  refine va_put (D := (dC, dI)) (ci := 1) (v := .int ((gCS_oc (sCS_out u (upd (gCS_out u) (((gCS_oc u) &&& (255 : Int32)) : Int32).toNatClampNeg a1))) + (1 : Int32))) (ty := .int) (C := RX1) (T := TX1) (N := 5) hx hb hts iX1_append_X1 tyX1 tyX1_ok nmX1 hown hK hP hD hS 0 rfl rfl 4 (by decide) (hts _ qX1_append_1) (fun _ h9 => h9) rfl (by decide +kernel) rfl rfl (Nat.le_of_ble_eq_true rfl) dX1_append_21 (fun H locs hP hD hS => ?_)
  obtain ⟨hP, hD⟩ := pC_oc hP hD
  exact W.vret hx hb hr (fun t ht hW => ⟨⟨(sCS_oc (sCS_out u (upd (gCS_out u) (((gCS_oc u) &&& (255 : Int32)) : Int32).toNatClampNeg a1)) ((gCS_oc (sCS_out u (upd (gCS_out u) (((gCS_oc u) &&& (255 : Int32)) : Int32).toNatClampNeg a1))) + (1 : Int32))), rfl, rfl, by rw [ht]; exact hP, va_K.moved hW.alike hK, hD⟩, hS.F ht⟩) hS.2.2 dX1_append_24

def f_X1_writtenCount (u : CS) : Int32 := (gCS_oc u)
theorem qX1_writtenCount_0 : Cond.fieldLink RX1 25 "DiskMachine$Console" "outputCount" "I" ∈ wsX1_writtenCount := by decide +kernel
theorem iX1_writtenCount_X1 : ∀ w ∈ wsX10, w ∈ wsX1_writtenCount := by decide +kernel
set_option maxHeartbeats 4000000 in
set_option maxRecDepth 100000 in
theorem k_X1_writtenCount (l : Launch) (dC : Nat → ClassId) (dI : Nat → Nat → Nat) (cI : ClassId) (cO iA oA : Nat) (sz : Nat) (u : CS) : Met l yX1_writtenCount wsX1_writtenCount ({ frames := 0, cells := 0, slots := 0, locals := 0 }) (va_Pc [.ref cO] (wB dC dI [(cI, .int)] sz (wC cI cO iA oA u))) (va_Qi (fun (r : Int32) (u' : CS) => r = (f_X1_writtenCount u) ∧ u' = u) (fun u' => wE dC dI [(cI, .int)] (va_A (wC cI cO iA oA u) sz) (wC cI cO iA oA u')) (va_A (wC cI cO iA oA u) sz)) 0 0 (va_A (wC cI cO iA oA u) sz) := by
  refine Met.ofW (cc := cX1_writtenCount) (maxL := 1) (ret := (some .int)) (by decide) rfl ?_
  intro p e s m args below meth c s₁ B hml hv
  obtain ⟨rfl, hsz, hP, hK, hD0⟩ := hv
  have hx := B.exec
  have hb := B.bytes
  have hr := B.returns
  have hts := atoms_spec (ws := wsX1_writtenCount) B.pre
  have hown : s.vm.findClass RX1 = some m.cls := findClass_of_methodNamed B.named
  have hlocks := B.notSynchronized
  subst hsz
  have hD := hD0.self (sz := s.heap.size)
  generalize hAe : va_A (wC cI cO iA oA u) s.heap.size = A at hD ⊢
  have hA : ∀ q : Nat, s.heap.size ≤ q → A q := fun q h => by rw [← hAe]; exact Or.inr h
  have hS : va_S A s.heap s.heap [] := va_S.rf
  have hP : va_P (dC, dI) vwCl (wC cI cO iA oA u) s.heap := hP
  clear hAe hD0
  have hl := lv_entry ([.ref cO]) (n := 1) (Nat.le_of_ble_eq_true rfl)
  rw [lg_entry_eq]
  generalize (lg_sl ([.ref cO]) ++ List.replicate (1 - (lg_sl ([.ref cO])).length) Slot.unset).toArray = ls at hl ⊢
  have hl : lv_has ls 1 [(0, .ref cO)] := hl
  refine jn_H hP hS (fun H locs hP hS => ?_)
  refine lv_aload_n hx hb dX1_writtenCount_0 rfl (lv_at hl 0 rfl) ?_
  refine va_get (D := (dC, dI)) (ci := 1) (v := .int (gCS_oc u)) (C := RX1) (T := TX1) (N := 5) hx hb hts iX1_writtenCount_X1 hown hK hP 0 rfl rfl 4 (by decide) (hts _ qX1_writtenCount_0) (fun _ h9 => h9) rfl dX1_writtenCount_1 ?_
  exact W.iret (v := (gCS_oc u)) hx hb hr (fun t ht hW => ⟨⟨(gCS_oc u), u, rfl, ⟨rfl, rfl⟩, by rw [ht]; exact hP, va_K.moved hW.alike hK, hD⟩, hS.F ht⟩) hS.2.2 dX1_writtenCount_4

def f_X1_keeps (u : CS) (a1 : Int32) : Bool := (if a1 < (0 : Int32) then false else (if (gCS_oc u) ≤ a1 then false else (if a1 < ((gCS_oc u) - (256 : Int32)) then false else true : Bool) : Bool) : Bool)
theorem qX1_keeps_0 : Cond.fieldLink RX1 25 "DiskMachine$Console" "outputCount" "I" ∈ wsX1_keeps := by decide +kernel
theorem iX1_keeps_X1 : ∀ w ∈ wsX10, w ∈ wsX1_keeps := by decide +kernel
set_option maxHeartbeats 4000000 in
set_option maxRecDepth 100000 in
theorem k_X1_keeps (l : Launch) (dC : Nat → ClassId) (dI : Nat → Nat → Nat) (cI : ClassId) (cO iA oA : Nat) (sz : Nat) (u : CS) (a1 : Int32) : Met l yX1_keeps wsX1_keeps ({ frames := 0, cells := 0, slots := 0, locals := 0 }) (va_Pc [.ref cO, .int a1] (wB dC dI [(cI, .int)] sz (wC cI cO iA oA u))) (va_Qi (fun (r : Int32) (u' : CS) => r = (bI (f_X1_keeps u a1)) ∧ u' = u) (fun u' => wE dC dI [(cI, .int)] (va_A (wC cI cO iA oA u) sz) (wC cI cO iA oA u')) (va_A (wC cI cO iA oA u) sz)) 0 0 (va_A (wC cI cO iA oA u) sz) := by
  refine Met.ofW (cc := cX1_keeps) (maxL := 2) (ret := (some .boolean)) (by decide) rfl ?_
  intro p e s m args below meth c s₁ B hml hv
  obtain ⟨rfl, hsz, hP, hK, hD0⟩ := hv
  have hx := B.exec
  have hb := B.bytes
  have hr := B.returns
  have hts := atoms_spec (ws := wsX1_keeps) B.pre
  have hown : s.vm.findClass RX1 = some m.cls := findClass_of_methodNamed B.named
  have hlocks := B.notSynchronized
  subst hsz
  have hD := hD0.self (sz := s.heap.size)
  generalize hAe : va_A (wC cI cO iA oA u) s.heap.size = A at hD ⊢
  have hA : ∀ q : Nat, s.heap.size ≤ q → A q := fun q h => by rw [← hAe]; exact Or.inr h
  have hS : va_S A s.heap s.heap [] := va_S.rf
  have hP : va_P (dC, dI) vwCl (wC cI cO iA oA u) s.heap := hP
  clear hAe hD0
  have hl := lv_entry ([.ref cO, .int a1]) (n := 2) (Nat.le_of_ble_eq_true rfl)
  rw [lg_entry_eq]
  generalize (lg_sl ([.ref cO, .int a1]) ++ List.replicate (2 - (lg_sl ([.ref cO, .int a1])).length) Slot.unset).toArray = ls at hl ⊢
  have hl : lv_has ls 2 [(0, .ref cO), (1, .int a1)] := hl
  refine jn_H hP hS (fun H locs hP hS => ?_)
  refine lv_iload_n hx hb dX1_keeps_0 rfl (lv_at hl 1 rfl) ?_
  refine jn_b (D := (dC, dI)) (cl := vwCl) (ws := (wC cI cO iA oA u)) (A := A) (H0 := s.heap) (nL := 2) 29 (if a1 < (0 : Int32) then false else (if (gCS_oc u) ≤ a1 then false else (if a1 < ((gCS_oc u) - (256 : Int32)) then false else true : Bool) : Bool) : Bool) [(0, .ref cO), (1, .int a1)] [] (fun H locs ls hP hS hl => ?_) (fun hJ1 => ?_)
  · skip
    exact W.zret (v := (bI (if a1 < (0 : Int32) then false else (if (gCS_oc u) ≤ a1 then false else (if a1 < ((gCS_oc u) - (256 : Int32)) then false else true : Bool) : Bool) : Bool))) hx hb hr (bI_nar (if a1 < (0 : Int32) then false else (if (gCS_oc u) ≤ a1 then false else (if a1 < ((gCS_oc u) - (256 : Int32)) then false else true : Bool) : Bool) : Bool)) (fun t ht hW => ⟨⟨(bI (if a1 < (0 : Int32) then false else (if (gCS_oc u) ≤ a1 then false else (if a1 < ((gCS_oc u) - (256 : Int32)) then false else true : Bool) : Bool) : Bool)), u, rfl, ⟨rfl, rfl⟩, by rw [ht]; exact hP, va_K.moved hW.alike hK, hD⟩, hS.F ht⟩) hS.2.2 dX1_keeps_29
  · skip
    refine lv_if_lt (tgt := 28) hx hb dX1_keeps_1 (by decide) (fun c2 => ?_) (fun c2 => ?_)
    · skip
      refine lv_iconst (v := 0) hx hb dX1_keeps_28 (by decide) ?_
      exact hJ1 false _ _ _ (by simp only [if_pos c2]) hP hS (lv_sub hl [0, 1] rfl)
    · skip
      refine lv_iload_n hx hb dX1_keeps_4 rfl (lv_at hl 1 rfl) ?_
      refine lv_aload_n hx hb dX1_keeps_5 rfl (lv_at hl 0 rfl) ?_
      refine va_get (D := (dC, dI)) (ci := 1) (v := .int (gCS_oc u)) (C := RX1) (T := TX1) (N := 5) hx hb hts iX1_keeps_X1 hown hK hP 0 rfl rfl 4 (by decide) (hts _ qX1_keeps_0) (fun _ h9 => h9) rfl dX1_keeps_6 ?_
      refine jn_b (D := (dC, dI)) (cl := vwCl) (ws := (wC cI cO iA oA u)) (A := A) (H0 := s.heap) (nL := 2) 29 (if (gCS_oc u) ≤ a1 then false else (if a1 < ((gCS_oc u) - (256 : Int32)) then false else true : Bool) : Bool) [(0, .ref cO), (1, .int a1)] [] (fun H locs ls hP hS hl => ?_) (fun hJ3 => ?_)
      · skip
        exact hJ1 (if (gCS_oc u) ≤ a1 then false else (if a1 < ((gCS_oc u) - (256 : Int32)) then false else true : Bool) : Bool) _ _ _ (by simp only [if_neg c2]) hP hS (lv_sub hl [0, 1] rfl)
      · skip
        refine lv_icmp_ge (tgt := 28) hx hb dX1_keeps_9 (by decide) (fun c4 => ?_) (fun c4 => ?_)
        · skip
          refine lv_iconst (v := 0) hx hb dX1_keeps_28 (by decide) ?_
          exact hJ3 false _ _ _ (by simp only [if_pos c4]) hP hS (lv_sub hl [0, 1] rfl)
        · skip
          refine lv_iload_n hx hb dX1_keeps_12 rfl (lv_at hl 1 rfl) ?_
          refine lv_aload_n hx hb dX1_keeps_13 rfl (lv_at hl 0 rfl) ?_
          refine va_get (D := (dC, dI)) (ci := 1) (v := .int (gCS_oc u)) (C := RX1) (T := TX1) (N := 5) hx hb hts iX1_keeps_X1 hown hK hP 0 rfl rfl 4 (by decide) (hts _ qX1_keeps_0) (fun _ h9 => h9) rfl dX1_keeps_14 ?_
          refine lv_sipush (v := 256) hx hb dX1_keeps_17 (by decide) ?_
          refine lv_isub hx hb dX1_keeps_20 ?_
          refine jn_b (D := (dC, dI)) (cl := vwCl) (ws := (wC cI cO iA oA u)) (A := A) (H0 := s.heap) (nL := 2) 29 (if a1 < ((gCS_oc u) - (256 : Int32)) then false else true : Bool) [(0, .ref cO), (1, .int a1)] [] (fun H locs ls hP hS hl => ?_) (fun hJ5 => ?_)
          · skip
            exact hJ3 (if a1 < ((gCS_oc u) - (256 : Int32)) then false else true : Bool) _ _ _ (by simp only [if_neg c4]) hP hS (lv_sub hl [0, 1] rfl)
          · skip
            refine lv_icmp_lt (tgt := 28) hx hb dX1_keeps_21 (by decide) (fun c6 => ?_) (fun c6 => ?_)
            · skip
              refine lv_iconst (v := 0) hx hb dX1_keeps_28 (by decide) ?_
              exact hJ5 false _ _ _ (by simp only [if_pos c6]) hP hS (lv_sub hl [0, 1] rfl)
            · skip
              refine lv_iconst (v := 1) hx hb dX1_keeps_24 (by decide) ?_
              refine lv_goto (tgt := 29) hx hb dX1_keeps_25 (by decide) ?_
              exact hJ5 true _ _ _ (by simp only [if_neg c6]) hP hS (lv_sub hl [0, 1] rfl)

def f_X1_writtenByte (u : CS) (a1 : Int32) : Int32 := ((gCS_out u) ((a1 &&& (255 : Int32)) : Int32).toNatClampNeg)
theorem qX1_writtenByte_0 : Cond.fieldLink RX1 15 "DiskMachine$Console" "output" "[I" ∈ wsX1_writtenByte := by decide +kernel
theorem iX1_writtenByte_X1 : ∀ w ∈ wsX10, w ∈ wsX1_writtenByte := by decide +kernel
set_option maxHeartbeats 4000000 in
set_option maxRecDepth 100000 in
theorem k_X1_writtenByte (l : Launch) (dC : Nat → ClassId) (dI : Nat → Nat → Nat) (cI : ClassId) (cO iA oA : Nat) (sz : Nat) (u : CS) (a1 : Int32) : Met l yX1_writtenByte wsX1_writtenByte ({ frames := 0, cells := 0, slots := 0, locals := 0 }) (va_Pc [.ref cO, .int a1] (wB dC dI [(cI, .int)] sz (wC cI cO iA oA u))) (va_Qi (fun (r : Int32) (u' : CS) => r = (f_X1_writtenByte u a1) ∧ u' = u) (fun u' => wE dC dI [(cI, .int)] (va_A (wC cI cO iA oA u) sz) (wC cI cO iA oA u')) (va_A (wC cI cO iA oA u) sz)) 0 0 (va_A (wC cI cO iA oA u) sz) := by
  refine Met.ofW (cc := cX1_writtenByte) (maxL := 2) (ret := (some .int)) (by decide) rfl ?_
  intro p e s m args below meth c s₁ B hml hv
  obtain ⟨rfl, hsz, hP, hK, hD0⟩ := hv
  have hx := B.exec
  have hb := B.bytes
  have hr := B.returns
  have hts := atoms_spec (ws := wsX1_writtenByte) B.pre
  have hown : s.vm.findClass RX1 = some m.cls := findClass_of_methodNamed B.named
  have hlocks := B.notSynchronized
  subst hsz
  have hD := hD0.self (sz := s.heap.size)
  generalize hAe : va_A (wC cI cO iA oA u) s.heap.size = A at hD ⊢
  have hA : ∀ q : Nat, s.heap.size ≤ q → A q := fun q h => by rw [← hAe]; exact Or.inr h
  have hS : va_S A s.heap s.heap [] := va_S.rf
  have hP : va_P (dC, dI) vwCl (wC cI cO iA oA u) s.heap := hP
  clear hAe hD0
  have hl := lv_entry ([.ref cO, .int a1]) (n := 2) (Nat.le_of_ble_eq_true rfl)
  rw [lg_entry_eq]
  generalize (lg_sl ([.ref cO, .int a1]) ++ List.replicate (2 - (lg_sl ([.ref cO, .int a1])).length) Slot.unset).toArray = ls at hl ⊢
  have hl : lv_has ls 2 [(0, .ref cO), (1, .int a1)] := hl
  refine jn_H hP hS (fun H locs hP hS => ?_)
  refine lv_aload_n hx hb dX1_writtenByte_0 rfl (lv_at hl 0 rfl) ?_
  refine va_get (D := (dC, dI)) (ci := 1) (v := .ref oA) (C := RX1) (T := TX1) (N := 5) hx hb hts iX1_writtenByte_X1 hown hK hP 0 rfl rfl 3 (by decide) (hts _ qX1_writtenByte_0) (fun _ h9 => h9) rfl dX1_writtenByte_1 ?_
  refine lv_iload_n hx hb dX1_writtenByte_4 rfl (lv_at hl 1 rfl) ?_
  refine lv_sipush (v := 255) hx hb dX1_writtenByte_5 (by decide) ?_
  refine lv_iand hx hb dX1_writtenByte_8 ?_
  refine va_iald (f := (gCS_out u)) hx hb hK hP 2 0 rfl rfl (ix_256 _) dX1_writtenByte_9 ?_
  exact W.iret (v := ((gCS_out u) ((a1 &&& (255 : Int32)) : Int32).toNatClampNeg)) hx hb hr (fun t ht hW => ⟨⟨((gCS_out u) ((a1 &&& (255 : Int32)) : Int32).toNatClampNeg), u, rfl, ⟨rfl, rfl⟩, by rw [ht]; exact hP, va_K.moved hW.alike hK, hD⟩, hS.F ht⟩) hS.2.2 dX1_writtenByte_10
