def f_X5_byteAt (u : (Nat → Int32)) (a1 : Int32) : Int32 := (u ((a1 &&& (4095 : Int32)) : Int32).toNatClampNeg)
theorem qX5_byteAt_0 : Cond.fieldLink RX5 11 "DiskMachine$Store" "bytes" "[I" ∈ wsX5_byteAt := by decide +kernel
theorem iX5_byteAt_X5 : ∀ w ∈ wsX50, w ∈ wsX5_byteAt := by decide +kernel
set_option maxHeartbeats 4000000 in
set_option maxRecDepth 100000 in
theorem k_X5_byteAt (l : Launch) (dC : Nat → ClassId) (dI : Nat → Nat → Nat) (cI : ClassId) (mS mA : Nat) (sz : Nat) (u : (Nat → Int32)) (a1 : Int32) : Met l yX5_byteAt wsX5_byteAt ({ frames := 0, cells := 0, slots := 0, locals := 0 }) (va_Pc [.ref mS, .int a1] (wB dC dI [(cI, .int)] sz (wS cI mS mA u))) (va_Qi (fun (r : Int32) (u' : (Nat → Int32)) => r = (f_X5_byteAt u a1) ∧ u' = u) (fun u' => wE dC dI [(cI, .int)] (va_A (wS cI mS mA u) sz) (wS cI mS mA u')) (va_A (wS cI mS mA u) sz)) 0 0 (va_A (wS cI mS mA u) sz) := by
  refine Met.ofW (cc := cX5_byteAt) (maxL := 2) (ret := (some .int)) (by decide) rfl ?_
  intro p e s m args below meth c s₁ B hml hv
  obtain ⟨rfl, hsz, hP, hK, hD0⟩ := hv
  have hx := B.exec
  have hb := B.bytes
  have hr := B.returns
  have hts := atoms_spec (ws := wsX5_byteAt) B.pre
  have hown : s.vm.findClass RX5 = some m.cls := findClass_of_methodNamed B.named
  have hlocks := B.notSynchronized
  subst hsz
  have hD := hD0.self (sz := s.heap.size)
  generalize hAe : va_A (wS cI mS mA u) s.heap.size = A at hD ⊢
  have hA : ∀ q : Nat, s.heap.size ≤ q → A q := fun q h => by rw [← hAe]; exact Or.inr h
  have hS : va_S A s.heap s.heap [] := va_S.rf
  have hP : va_P (dC, dI) vwCl (wS cI mS mA u) s.heap := hP
  clear hAe hD0
  have hl := lv_entry ([.ref mS, .int a1]) (n := 2) (Nat.le_of_ble_eq_true rfl)
  rw [lg_entry_eq]
  generalize (lg_sl ([.ref mS, .int a1]) ++ List.replicate (2 - (lg_sl ([.ref mS, .int a1])).length) Slot.unset).toArray = ls at hl ⊢
  have hl : lv_has ls 2 [(0, .ref mS), (1, .int a1)] := hl
  refine jn_H hP hS (fun H locs hP hS => ?_)
  refine lv_aload_n hx hb dX5_byteAt_0 rfl (lv_at hl 0 rfl) ?_
  refine va_get (D := (dC, dI)) (ci := 5) (v := .ref mA) (C := RX5) (T := TX5) (N := 1) hx hb hts iX5_byteAt_X5 hown hK hP 0 rfl rfl 0 (by decide) (hts _ qX5_byteAt_0) (fun _ h9 => h9) rfl dX5_byteAt_1 ?_
  refine lv_iload_n hx hb dX5_byteAt_4 rfl (lv_at hl 1 rfl) ?_
  refine lv_sipush (v := 4095) hx hb dX5_byteAt_5 (by decide) ?_
  refine lv_iand hx hb dX5_byteAt_8 ?_
  refine va_iald (f := u) hx hb hK hP 1 0 rfl rfl (ix_4096 _) dX5_byteAt_9 ?_
  exact W.iret (v := (u ((a1 &&& (4095 : Int32)) : Int32).toNatClampNeg)) hx hb hr (fun t ht hW => ⟨⟨(u ((a1 &&& (4095 : Int32)) : Int32).toNatClampNeg), u, rfl, ⟨rfl, rfl⟩, by rw [ht]; exact hP, va_K.moved hW.alike hK, hD⟩, hS.F ht⟩) hS.2.2 dX5_byteAt_10

def f_X5_setByte (u : (Nat → Int32)) (a1 : Int32) (a2 : Int32) : (Nat → Int32) := (upd u ((a1 &&& (4095 : Int32)) : Int32).toNatClampNeg (a2 &&& (255 : Int32)))
theorem qX5_setByte_0 : Cond.fieldLink RX5 11 "DiskMachine$Store" "bytes" "[I" ∈ wsX5_setByte := by decide +kernel
theorem iX5_setByte_X5 : ∀ w ∈ wsX50, w ∈ wsX5_setByte := by decide +kernel
set_option maxHeartbeats 4000000 in
set_option maxRecDepth 100000 in
theorem k_X5_setByte (l : Launch) (dC : Nat → ClassId) (dI : Nat → Nat → Nat) (cI : ClassId) (mS mA : Nat) (sz : Nat) (u : (Nat → Int32)) (a1 : Int32) (a2 : Int32) : Met l yX5_setByte wsX5_setByte ({ frames := 0, cells := 0, slots := 0, locals := 0 }) (va_Pc [.ref mS, .int a1, .int a2] (wB dC dI [(cI, .int)] sz (wS cI mS mA u))) (va_Qv (fun u' : (Nat → Int32) => u' = (f_X5_setByte u a1 a2)) (fun u' => wE dC dI [(cI, .int)] (va_A (wS cI mS mA u) sz) (wS cI mS mA u')) (va_A (wS cI mS mA u) sz)) 0 0 (va_A (wS cI mS mA u) sz) := by
  refine Met.ofW (cc := cX5_setByte) (maxL := 3) (ret := none) (by decide) rfl ?_
  intro p e s m args below meth c s₁ B hml hv
  obtain ⟨rfl, hsz, hP, hK, hD0⟩ := hv
  have hx := B.exec
  have hb := B.bytes
  have hr := B.returns
  have hts := atoms_spec (ws := wsX5_setByte) B.pre
  have hown : s.vm.findClass RX5 = some m.cls := findClass_of_methodNamed B.named
  have hlocks := B.notSynchronized
  subst hsz
  have hD := hD0.self (sz := s.heap.size)
  generalize hAe : va_A (wS cI mS mA u) s.heap.size = A at hD ⊢
  have hA : ∀ q : Nat, s.heap.size ≤ q → A q := fun q h => by rw [← hAe]; exact Or.inr h
  have hS : va_S A s.heap s.heap [] := va_S.rf
  have hP : va_P (dC, dI) vwCl (wS cI mS mA u) s.heap := hP
  clear hAe hD0
  have hl := lv_entry ([.ref mS, .int a1, .int a2]) (n := 3) (Nat.le_of_ble_eq_true rfl)
  rw [lg_entry_eq]
  generalize (lg_sl ([.ref mS, .int a1, .int a2]) ++ List.replicate (3 - (lg_sl ([.ref mS, .int a1, .int a2])).length) Slot.unset).toArray = ls at hl ⊢
  have hl : lv_has ls 3 [(0, .ref mS), (1, .int a1), (2, .int a2)] := hl
  refine jn_H hP hS (fun H locs hP hS => ?_)
  refine lv_aload_n hx hb dX5_setByte_0 rfl (lv_at hl 0 rfl) ?_
  refine va_get (D := (dC, dI)) (ci := 5) (v := .ref mA) (C := RX5) (T := TX5) (N := 1) hx hb hts iX5_setByte_X5 hown hK hP 0 rfl rfl 0 (by decide) (hts _ qX5_setByte_0) (fun _ h9 => h9) rfl dX5_setByte_1 ?_
  refine lv_iload_n hx hb dX5_setByte_4 rfl (lv_at hl 1 rfl) ?_
  refine lv_sipush (v := 4095) hx hb dX5_setByte_5 (by decide) ?_
  refine lv_iand hx hb dX5_setByte_8 ?_
  refine lv_iload_n hx hb dX5_setByte_9 rfl (lv_at hl 2 rfl) ?_
  refine lv_sipush (v := 255) hx hb dX5_setByte_10 (by decide) ?_
  refine lv_iand hx hb dX5_setByte_13 ?_
  refine va_iast (f := u) hx hb hK hP hD hS 1 0 rfl rfl (ix_4096 _) dX5_setByte_14 (fun H locs hP hD hS => ?_)
  obtain ⟨hP, hD⟩ := aS_mA hP hD
  exact W.vret hx hb hr (fun t ht hW => ⟨⟨(upd u ((a1 &&& (4095 : Int32)) : Int32).toNatClampNeg (a2 &&& (255 : Int32))), rfl, rfl, by rw [ht]; exact hP, va_K.moved hW.alike hK, hD⟩, hS.F ht⟩) hS.2.2 dX5_setByte_15

def f_X5_exchange (u : (Nat → Int32)) (a1 : Int32) (a2 : Int32) : Int32 × (Nat → Int32) := ((f_X5_byteAt u a1), (f_X5_setByte u a1 a2))

set_option maxHeartbeats 4000000 in
set_option maxRecDepth 100000 in
theorem k_X5_exchange (l : Launch) (dC : Nat → ClassId) (dI : Nat → Nat → Nat) (cI : ClassId) (mS mA : Nat) (sz : Nat) (u : (Nat → Int32)) (a1 : Int32) (a2 : Int32) : Met l yX5_exchange wsX5_exchange ({ frames := 1, cells := 0, slots := 0, locals := 22 }) (va_Pc [.ref mS, .int a1, .int a2] (wB dC dI [(cI, .int)] sz (wS cI mS mA u))) (va_Qi (fun (r : Int32) (u' : (Nat → Int32)) => r = (f_X5_exchange u a1 a2).1 ∧ u' = (f_X5_exchange u a1 a2).2) (fun u' => wE dC dI [(cI, .int)] (va_A (wS cI mS mA u) sz) (wS cI mS mA u')) (va_A (wS cI mS mA u) sz)) 0 0 (va_A (wS cI mS mA u) sz) := by
  refine Met.ofW (cc := cX5_exchange) (maxL := 4) (ret := (some .int)) (by decide) rfl ?_
  intro p e s m args below meth c s₁ B hml hv
  obtain ⟨rfl, hsz, hP, hK, hD0⟩ := hv
  have hx := B.exec
  have hb := B.bytes
  have hr := B.returns
  have hts := atoms_spec (ws := wsX5_exchange) B.pre
  have hown : s.vm.findClass RX5 = some m.cls := findClass_of_methodNamed B.named
  have hlocks := B.notSynchronized
  subst hsz
  have hD := hD0.self (sz := s.heap.size)
  generalize hAe : va_A (wS cI mS mA u) s.heap.size = A at hD ⊢
  have hA : ∀ q : Nat, s.heap.size ≤ q → A q := fun q h => by rw [← hAe]; exact Or.inr h
  have hS : va_S A s.heap s.heap [] := va_S.rf
  have hP : va_P (dC, dI) vwCl (wS cI mS mA u) s.heap := hP
  clear hAe hD0
  have hl := lv_entry ([.ref mS, .int a1, .int a2]) (n := 4) (Nat.le_of_ble_eq_true rfl)
  rw [lg_entry_eq]
  generalize (lg_sl ([.ref mS, .int a1, .int a2]) ++ List.replicate (4 - (lg_sl ([.ref mS, .int a1, .int a2])).length) Slot.unset).toArray = ls at hl ⊢
  have hl : lv_has ls 4 [(0, .ref mS), (1, .int a1), (2, .int a2)] := hl
  refine jn_H hP hS (fun H locs hP hS => ?_)
  refine lv_aload_n hx hb dX5_exchange_0 rfl (lv_at hl 0 rfl) ?_
  refine lv_iload_n hx hb dX5_exchange_1 rfl (lv_at hl 1 rfl) ?_
  obtain ⟨hPc, hDc, hFc⟩ := xS_S hP hD hS hA
  have hKc := hK.sub (tys' := [(cI, .int)]) [0] rfl
  refine va_calli (va_runV (As := [.int a1]) (rest := []) ⟨hx, hb, hml, hown, hts⟩ (k_X5_byteAt l dC dI cI mS mA H.size u a1) (cwV 1 hts gX5_exchange_X5_byteAt rfl rfl rfl (by decide +kernel) ⟨Nat.le_of_ble_eq_true rfl, Nat.le_of_ble_eq_true rfl⟩) ⟨fun a U g mk q => by obtain ⟨q0, q1, qP, qK, qD⟩ := q; exact ⟨q0, q1, qP, va_K.moved (u := U) (U := U.calling g mk a) (Vm.Alike.refl U.vm) qK, qD⟩, va_recv hKc hPc (ci := 5) (q0 := 0) rfl rfl, fun U hU hW => ⟨rfl, by rw [hU], by rw [hU]; exact hPc, va_K.moved hW.alike hKc, hDc.weaken (fun _ _ _ _ => trivial)⟩⟩ rfl rfl hl.1 rfl (lv_room (Nat.le_of_ble_eq_true rfl)) dX5_exchange_2 ⟨Nat.le_of_ble_eq_true rfl, Nat.le_of_ble_eq_true rfl⟩) hS (fun q _ h => hFc q h) hFc (fun r9 u9 t H1 locs ht hvm hw hB hz1 hk1 hS => ?_)
  obtain ⟨hw1, hw2⟩ := hw
  have hw2 := hw2.symm
  subst hw1 hw2
  obtain ⟨hP1, hK1, hD1⟩ := hB
  rw [ht] at hP1
  obtain ⟨hP, hD⟩ := jS_S0 hP hD hk1 hFc hP1 hD1
  clear hPc hDc hKc hFc hz1 hk1 hP1 hK1 hD1 ht hvm
  generalize H1 = H at hP hS ⊢
  refine lv_istore_n (lv' := [(3, .int (f_X5_byteAt u a1)), (0, .ref mS), (1, .int a1), (2, .int a2)]) hx hb dX5_exchange_5 rfl hl (by decide) rfl (fun ls hl => ?_)
  refine lv_aload_n hx hb dX5_exchange_6 rfl (lv_at hl 1 rfl) ?_
  refine lv_iload_n hx hb dX5_exchange_7 rfl (lv_at hl 2 rfl) ?_
  refine lv_iload_n hx hb dX5_exchange_8 rfl (lv_at hl 3 rfl) ?_
  obtain ⟨hPc, hDc, hFc⟩ := xS_S hP hD hS hA
  have hKc := hK.sub (tys' := [(cI, .int)]) [0] rfl
  refine va_callv (va_runV (As := [.int a1, .int a2]) (rest := []) ⟨hx, hb, hml, hown, hts⟩ (k_X5_setByte l dC dI cI mS mA H.size u a1 a2) (cwV 2 hts gX5_exchange_X5_setByte rfl rfl rfl (by decide +kernel) ⟨Nat.le_of_ble_eq_true rfl, Nat.le_of_ble_eq_true rfl⟩) ⟨fun a U g mk q => by obtain ⟨q0, q1, qP, qK, qD⟩ := q; exact ⟨q0, q1, qP, va_K.moved (u := U) (U := U.calling g mk a) (Vm.Alike.refl U.vm) qK, qD⟩, va_recv hKc hPc (ci := 5) (q0 := 0) rfl rfl, fun U hU hW => ⟨rfl, by rw [hU], by rw [hU]; exact hPc, va_K.moved hW.alike hKc, hDc.weaken (fun _ _ _ _ => trivial)⟩⟩ rfl rfl hl.1 rfl (lv_room (Nat.le_of_ble_eq_true rfl)) dX5_exchange_9 ⟨Nat.le_of_ble_eq_true rfl, Nat.le_of_ble_eq_true rfl⟩) hS (fun q _ h => hFc q h) hFc (fun u9 t H1 locs ht hvm hw hB hz1 hk1 hS => ?_)
  subst hw
  obtain ⟨hP1, hK1, hD1⟩ := hB
  rw [ht] at hP1
  obtain ⟨hP, hD⟩ := jS_S hP hD hk1 hFc hP1 hD1
  clear hPc hDc hKc hFc hz1 hk1 hP1 hK1 hD1 ht hvm
  generalize H1 = H at hP hS ⊢
  refine lv_iload_n hx hb dX5_exchange_12 rfl (lv_at hl 0 rfl) ?_
  exact W.iret (v := (f_X5_byteAt u a1)) hx hb hr (fun t ht hW => ⟨⟨(f_X5_byteAt u a1), (f_X5_setByte u a1 a2), rfl, ⟨rfl, rfl⟩, by rw [ht]; exact hP, va_K.moved hW.alike hK, hD⟩, hS.F ht⟩) hS.2.2 dX5_exchange_13

def f_X5_wordAt (u : (Nat → Int32)) (a1 : Int32) : Int32 := ((u ((a1 &&& (4095 : Int32)) : Int32).toNatClampNeg) ||| ((u (((a1 + (1 : Int32)) &&& (4095 : Int32)) : Int32).toNatClampNeg) <<< ((8 : Int32) &&& 31)))
theorem qX5_wordAt_0 : Cond.fieldLink RX5 11 "DiskMachine$Store" "bytes" "[I" ∈ wsX5_wordAt := by decide +kernel
theorem iX5_wordAt_X5 : ∀ w ∈ wsX50, w ∈ wsX5_wordAt := by decide +kernel
set_option maxHeartbeats 4000000 in
set_option maxRecDepth 100000 in
theorem k_X5_wordAt (l : Launch) (dC : Nat → ClassId) (dI : Nat → Nat → Nat) (cI : ClassId) (mS mA : Nat) (sz : Nat) (u : (Nat → Int32)) (a1 : Int32) : Met l yX5_wordAt wsX5_wordAt ({ frames := 0, cells := 0, slots := 0, locals := 0 }) (va_Pc [.ref mS, .int a1] (wB dC dI [(cI, .int)] sz (wS cI mS mA u))) (va_Qi (fun (r : Int32) (u' : (Nat → Int32)) => r = (f_X5_wordAt u a1) ∧ u' = u) (fun u' => wE dC dI [(cI, .int)] (va_A (wS cI mS mA u) sz) (wS cI mS mA u')) (va_A (wS cI mS mA u) sz)) 0 0 (va_A (wS cI mS mA u) sz) := by
  refine Met.ofW (cc := cX5_wordAt) (maxL := 2) (ret := (some .int)) (by decide) rfl ?_
  intro p e s m args below meth c s₁ B hml hv
  obtain ⟨rfl, hsz, hP, hK, hD0⟩ := hv
  have hx := B.exec
  have hb := B.bytes
  have hr := B.returns
  have hts := atoms_spec (ws := wsX5_wordAt) B.pre
  have hown : s.vm.findClass RX5 = some m.cls := findClass_of_methodNamed B.named
  have hlocks := B.notSynchronized
  subst hsz
  have hD := hD0.self (sz := s.heap.size)
  generalize hAe : va_A (wS cI mS mA u) s.heap.size = A at hD ⊢
  have hA : ∀ q : Nat, s.heap.size ≤ q → A q := fun q h => by rw [← hAe]; exact Or.inr h
  have hS : va_S A s.heap s.heap [] := va_S.rf
  have hP : va_P (dC, dI) vwCl (wS cI mS mA u) s.heap := hP
  clear hAe hD0
  have hl := lv_entry ([.ref mS, .int a1]) (n := 2) (Nat.le_of_ble_eq_true rfl)
  rw [lg_entry_eq]
  generalize (lg_sl ([.ref mS, .int a1]) ++ List.replicate (2 - (lg_sl ([.ref mS, .int a1])).length) Slot.unset).toArray = ls at hl ⊢
  have hl : lv_has ls 2 [(0, .ref mS), (1, .int a1)] := hl
  refine jn_H hP hS (fun H locs hP hS => ?_)
  refine lv_aload_n hx hb dX5_wordAt_0 rfl (lv_at hl 0 rfl) ?_
  refine va_get (D := (dC, dI)) (ci := 5) (v := .ref mA) (C := RX5) (T := TX5) (N := 1) hx hb hts iX5_wordAt_X5 hown hK hP 0 rfl rfl 0 (by decide) (hts _ qX5_wordAt_0) (fun _ h9 => h9) rfl dX5_wordAt_1 ?_
  refine lv_iload_n hx hb dX5_wordAt_4 rfl (lv_at hl 1 rfl) ?_
  refine lv_sipush (v := 4095) hx hb dX5_wordAt_5 (by decide) ?_
  refine lv_iand hx hb dX5_wordAt_8 ?_
  refine va_iald (f := u) hx hb hK hP 1 0 rfl rfl (ix_4096 _) dX5_wordAt_9 ?_
  refine lv_aload_n hx hb dX5_wordAt_10 rfl (lv_at hl 0 rfl) ?_
  refine va_get (D := (dC, dI)) (ci := 5) (v := .ref mA) (C := RX5) (T := TX5) (N := 1) hx hb hts iX5_wordAt_X5 hown hK hP 0 rfl rfl 0 (by decide) (hts _ qX5_wordAt_0) (fun _ h9 => h9) rfl dX5_wordAt_11 ?_
  refine lv_iload_n hx hb dX5_wordAt_14 rfl (lv_at hl 1 rfl) ?_
  refine lv_iconst (v := 1) hx hb dX5_wordAt_15 (by decide) ?_
  refine lv_iadd hx hb dX5_wordAt_16 ?_
  refine lv_sipush (v := 4095) hx hb dX5_wordAt_17 (by decide) ?_
  refine lv_iand hx hb dX5_wordAt_20 ?_
  refine va_iald (f := u) hx hb hK hP 1 0 rfl rfl (ix_4096 _) dX5_wordAt_21 ?_
  refine lv_bipush (v := 8) hx hb dX5_wordAt_22 (by decide) ?_
  refine lv_ishl hx hb dX5_wordAt_24 ?_
  refine lv_ior hx hb dX5_wordAt_25 ?_
  exact W.iret (v := ((u ((a1 &&& (4095 : Int32)) : Int32).toNatClampNeg) ||| ((u (((a1 + (1 : Int32)) &&& (4095 : Int32)) : Int32).toNatClampNeg) <<< ((8 : Int32) &&& 31)))) hx hb hr (fun t ht hW => ⟨⟨((u ((a1 &&& (4095 : Int32)) : Int32).toNatClampNeg) ||| ((u (((a1 + (1 : Int32)) &&& (4095 : Int32)) : Int32).toNatClampNeg) <<< ((8 : Int32) &&& 31))), u, rfl, ⟨rfl, rfl⟩, by rw [ht]; exact hP, va_K.moved hW.alike hK, hD⟩, hS.F ht⟩) hS.2.2 dX5_wordAt_26

def f_X5_setWord (u : (Nat → Int32)) (a1 : Int32) (a2 : Int32) : (Nat → Int32) := (upd (upd u ((a1 &&& (4095 : Int32)) : Int32).toNatClampNeg (a2 &&& (255 : Int32))) (((a1 + (1 : Int32)) &&& (4095 : Int32)) : Int32).toNatClampNeg ((a2 >>> ((8 : Int32) &&& 31)) &&& (255 : Int32)))
theorem qX5_setWord_0 : Cond.fieldLink RX5 11 "DiskMachine$Store" "bytes" "[I" ∈ wsX5_setWord := by decide +kernel
theorem iX5_setWord_X5 : ∀ w ∈ wsX50, w ∈ wsX5_setWord := by decide +kernel
set_option maxHeartbeats 4000000 in
set_option maxRecDepth 100000 in
theorem k_X5_setWord (l : Launch) (dC : Nat → ClassId) (dI : Nat → Nat → Nat) (cI : ClassId) (mS mA : Nat) (sz : Nat) (u : (Nat → Int32)) (a1 : Int32) (a2 : Int32) : Met l yX5_setWord wsX5_setWord ({ frames := 0, cells := 0, slots := 0, locals := 0 }) (va_Pc [.ref mS, .int a1, .int a2] (wB dC dI [(cI, .int)] sz (wS cI mS mA u))) (va_Qv (fun u' : (Nat → Int32) => u' = (f_X5_setWord u a1 a2)) (fun u' => wE dC dI [(cI, .int)] (va_A (wS cI mS mA u) sz) (wS cI mS mA u')) (va_A (wS cI mS mA u) sz)) 0 0 (va_A (wS cI mS mA u) sz) := by
  refine Met.ofW (cc := cX5_setWord) (maxL := 3) (ret := none) (by decide) rfl ?_
  intro p e s m args below meth c s₁ B hml hv
  obtain ⟨rfl, hsz, hP, hK, hD0⟩ := hv
  have hx := B.exec
  have hb := B.bytes
  have hr := B.returns
  have hts := atoms_spec (ws := wsX5_setWord) B.pre
  have hown : s.vm.findClass RX5 = some m.cls := findClass_of_methodNamed B.named
  have hlocks := B.notSynchronized
  subst hsz
  have hD := hD0.self (sz := s.heap.size)
  generalize hAe : va_A (wS cI mS mA u) s.heap.size = A at hD ⊢
  have hA : ∀ q : Nat, s.heap.size ≤ q → A q := fun q h => by rw [← hAe]; exact Or.inr h
  have hS : va_S A s.heap s.heap [] := va_S.rf
  have hP : va_P (dC, dI) vwCl (wS cI mS mA u) s.heap := hP
  clear hAe hD0
  have hl := lv_entry ([.ref mS, .int a1, .int a2]) (n := 3) (Nat.le_of_ble_eq_true rfl)
  rw [lg_entry_eq]
  generalize (lg_sl ([.ref mS, .int a1, .int a2]) ++ List.replicate (3 - (lg_sl ([.ref mS, .int a1, .int a2])).length) Slot.unset).toArray = ls at hl ⊢
  have hl : lv_has ls 3 [(0, .ref mS), (1, .int a1), (2, .int a2)] := hl
  refine jn_H hP hS (fun H locs hP hS => ?_)
  refine lv_aload_n hx hb dX5_setWord_0 rfl (lv_at hl 0 rfl) ?_
  refine va_get (D := (dC, dI)) (ci := 5) (v := .ref mA) (C := RX5) (T := TX5) (N := 1) hx hb hts iX5_setWord_X5 hown hK hP 0 rfl rfl 0 (by decide) (hts _ qX5_setWord_0) (fun _ h9 => h9) rfl dX5_setWord_1 ?_
  refine lv_iload_n hx hb dX5_setWord_4 rfl (lv_at hl 1 rfl) ?_
  refine lv_sipush (v := 4095) hx hb dX5_setWord_5 (by decide) ?_
  refine lv_iand hx hb dX5_setWord_8 ?_
  refine lv_iload_n hx hb dX5_setWord_9 rfl (lv_at hl 2 rfl) ?_
  refine lv_sipush (v := 255) hx hb dX5_setWord_10 (by decide) ?_
  refine lv_iand hx hb dX5_setWord_13 ?_
  refine va_iast (f := u) hx hb hK hP hD hS 1 0 rfl rfl (ix_4096 _) dX5_setWord_14 (fun H locs hP hD hS => ?_)
  obtain ⟨hP, hD⟩ := aS_mA hP hD
  refine lv_aload_n hx hb dX5_setWord_15 rfl (lv_at hl 0 rfl) ?_
  refine va_get (D := (dC, dI)) (ci := 5) (v := .ref mA) (C := RX5) (T := TX5) (N := 1) hx hb hts iX5_setWord_X5 hown hK hP 0 rfl rfl 0 (by decide) (hts _ qX5_setWord_0) (fun _ h9 => h9) rfl dX5_setWord_16 ?_
  refine lv_iload_n hx hb dX5_setWord_19 rfl (lv_at hl 1 rfl) ?_
  refine lv_iconst (v := 1) hx hb dX5_setWord_20 (by decide) ?_
  refine lv_iadd hx hb dX5_setWord_21 ?_
  refine lv_sipush (v := 4095) hx hb dX5_setWord_22 (by decide) ?_
  refine lv_iand hx hb dX5_setWord_25 ?_
  refine lv_iload_n hx hb dX5_setWord_26 rfl (lv_at hl 2 rfl) ?_
  refine lv_bipush (v := 8) hx hb dX5_setWord_27 (by decide) ?_
  refine lv_ishr hx hb dX5_setWord_29 ?_
  refine lv_sipush (v := 255) hx hb dX5_setWord_30 (by decide) ?_
  refine lv_iand hx hb dX5_setWord_33 ?_
  refine va_iast (f := (upd u ((a1 &&& (4095 : Int32)) : Int32).toNatClampNeg (a2 &&& (255 : Int32)))) hx hb hK hP hD hS 1 0 rfl rfl (ix_4096 _) dX5_setWord_34 (fun H locs hP hD hS => ?_)
  obtain ⟨hP, hD⟩ := aS_mA hP hD
  exact W.vret hx hb hr (fun t ht hW => ⟨⟨(upd (upd u ((a1 &&& (4095 : Int32)) : Int32).toNatClampNeg (a2 &&& (255 : Int32))) (((a1 + (1 : Int32)) &&& (4095 : Int32)) : Int32).toNatClampNeg ((a2 >>> ((8 : Int32) &&& 31)) &&& (255 : Int32))), rfl, rfl, by rw [ht]; exact hP, va_K.moved hW.alike hK, hD⟩, hS.F ht⟩) hS.2.2 dX5_setWord_35
