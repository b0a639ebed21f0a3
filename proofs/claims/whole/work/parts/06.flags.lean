def f_J6_bitCount_0f7a4 (a1 : Int32) : Int32 := ((((((((a1 - ((((a1 : Int32).toUInt32 >>> ((1 : Int32).toUInt32 &&& Int32.toUInt32 31)).toInt32) &&& (1431655765 : Int32))) &&& (858993459 : Int32)) + (((((a1 - ((((a1 : Int32).toUInt32 >>> ((1 : Int32).toUInt32 &&& Int32.toUInt32 31)).toInt32) &&& (1431655765 : Int32))) : Int32).toUInt32 >>> ((2 : Int32).toUInt32 &&& Int32.toUInt32 31)).toInt32) &&& (858993459 : Int32))) + ((((((a1 - ((((a1 : Int32).toUInt32 >>> ((1 : Int32).toUInt32 &&& Int32.toUInt32 31)).toInt32) &&& (1431655765 : Int32))) &&& (858993459 : Int32)) + (((((a1 - ((((a1 : Int32).toUInt32 >>> ((1 : Int32).toUInt32 &&& Int32.toUInt32 31)).toInt32) &&& (1431655765 : Int32))) : Int32).toUInt32 >>> ((2 : Int32).toUInt32 &&& Int32.toUInt32 31)).toInt32) &&& (858993459 : Int32))) : Int32).toUInt32 >>> ((4 : Int32).toUInt32 &&& Int32.toUInt32 31)).toInt32)) &&& (252645135 : Int32)) + ((((((((a1 - ((((a1 : Int32).toUInt32 >>> ((1 : Int32).toUInt32 &&& Int32.toUInt32 31)).toInt32) &&& (1431655765 : Int32))) &&& (858993459 : Int32)) + (((((a1 - ((((a1 : Int32).toUInt32 >>> ((1 : Int32).toUInt32 &&& Int32.toUInt32 31)).toInt32) &&& (1431655765 : Int32))) : Int32).toUInt32 >>> ((2 : Int32).toUInt32 &&& Int32.toUInt32 31)).toInt32) &&& (858993459 : Int32))) + ((((((a1 - ((((a1 : Int32).toUInt32 >>> ((1 : Int32).toUInt32 &&& Int32.toUInt32 31)).toInt32) &&& (1431655765 : Int32))) &&& (858993459 : Int32)) + (((((a1 - ((((a1 : Int32).toUInt32 >>> ((1 : Int32).toUInt32 &&& Int32.toUInt32 31)).toInt32) &&& (1431655765 : Int32))) : Int32).toUInt32 >>> ((2 : Int32).toUInt32 &&& Int32.toUInt32 31)).toInt32) &&& (858993459 : Int32))) : Int32).toUInt32 >>> ((4 : Int32).toUInt32 &&& Int32.toUInt32 31)).toInt32)) &&& (252645135 : Int32)) : Int32).toUInt32 >>> ((8 : Int32).toUInt32 &&& Int32.toUInt32 31)).toInt32)) + (((((((((a1 - ((((a1 : Int32).toUInt32 >>> ((1 : Int32).toUInt32 &&& Int32.toUInt32 31)).toInt32) &&& (1431655765 : Int32))) &&& (858993459 : Int32)) + (((((a1 - ((((a1 : Int32).toUInt32 >>> ((1 : Int32).toUInt32 &&& Int32.toUInt32 31)).toInt32) &&& (1431655765 : Int32))) : Int32).toUInt32 >>> ((2 : Int32).toUInt32 &&& Int32.toUInt32 31)).toInt32) &&& (858993459 : Int32))) + ((((((a1 - ((((a1 : Int32).toUInt32 >>> ((1 : Int32).toUInt32 &&& Int32.toUInt32 31)).toInt32) &&& (1431655765 : Int32))) &&& (858993459 : Int32)) + (((((a1 - ((((a1 : Int32).toUInt32 >>> ((1 : Int32).toUInt32 &&& Int32.toUInt32 31)).toInt32) &&& (1431655765 : Int32))) : Int32).toUInt32 >>> ((2 : Int32).toUInt32 &&& Int32.toUInt32 31)).toInt32) &&& (858993459 : Int32))) : Int32).toUInt32 >>> ((4 : Int32).toUInt32 &&& Int32.toUInt32 31)).toInt32)) &&& (252645135 : Int32)) + ((((((((a1 - ((((a1 : Int32).toUInt32 >>> ((1 : Int32).toUInt32 &&& Int32.toUInt32 31)).toInt32) &&& (1431655765 : Int32))) &&& (858993459 : Int32)) + (((((a1 - ((((a1 : Int32).toUInt32 >>> ((1 : Int32).toUInt32 &&& Int32.toUInt32 31)).toInt32) &&& (1431655765 : Int32))) : Int32).toUInt32 >>> ((2 : Int32).toUInt32 &&& Int32.toUInt32 31)).toInt32) &&& (858993459 : Int32))) + ((((((a1 - ((((a1 : Int32).toUInt32 >>> ((1 : Int32).toUInt32 &&& Int32.toUInt32 31)).toInt32) &&& (1431655765 : Int32))) &&& (858993459 : Int32)) + (((((a1 - ((((a1 : Int32).toUInt32 >>> ((1 : Int32).toUInt32 &&& Int32.toUInt32 31)).toInt32) &&& (1431655765 : Int32))) : Int32).toUInt32 >>> ((2 : Int32).toUInt32 &&& Int32.toUInt32 31)).toInt32) &&& (858993459 : Int32))) : Int32).toUInt32 >>> ((4 : Int32).toUInt32 &&& Int32.toUInt32 31)).toInt32)) &&& (252645135 : Int32)) : Int32).toUInt32 >>> ((8 : Int32).toUInt32 &&& Int32.toUInt32 31)).toInt32)) : Int32).toUInt32 >>> ((16 : Int32).toUInt32 &&& Int32.toUInt32 31)).toInt32)) &&& (63 : Int32))
theorem qJ6_bitCount_0f7a4_0 : Cond.constant RJ6 265 (1431655765) ∈ wsJ6_bitCount_0f7a4 := by decide +kernel
theorem qJ6_bitCount_0f7a4_1 : Cond.constant RJ6 266 (858993459) ∈ wsJ6_bitCount_0f7a4 := by decide +kernel
theorem qJ6_bitCount_0f7a4_2 : Cond.constant RJ6 267 (252645135) ∈ wsJ6_bitCount_0f7a4 := by decide +kernel
set_option maxHeartbeats 4000000 in
set_option maxRecDepth 100000 in
theorem k_J6_bitCount_0f7a4 (l : Launch) (dC : Nat → ClassId) (dI : Nat → Nat → Nat) (sz : Nat) (a1 : Int32) : Met l yJ6_bitCount_0f7a4 wsJ6_bitCount_0f7a4 ({ frames := 0, cells := 0, slots := 0, locals := 0 }) (va_Pc [.int a1] (wB dC dI [] sz ([] : va_W))) (va_Qi (fun (r : Int32) (u' : Unit) => r = (f_J6_bitCount_0f7a4 a1) ∧ u' = ()) (fun u' => wE dC dI [] (va_A ([] : va_W) sz) ([] : va_W)) (va_A ([] : va_W) sz)) 0 0 (va_A ([] : va_W) sz) := by
  refine Met.ofW (cc := cJ6_bitCount_0f7a4) (maxL := 1) (ret := (some .int)) (by decide) rfl ?_
  intro p e s m args below meth c s₁ B hml hv
  obtain ⟨rfl, hsz, hP, hK, hD0⟩ := hv
  have hx := B.exec
  have hb := B.bytes
  have hr := B.returns
  have hts := atoms_spec (ws := wsJ6_bitCount_0f7a4) B.pre
  have hown : s.vm.findClass RJ6 = some m.cls := findClass_of_methodNamed B.named
  have hlocks := B.notSynchronized
  subst hsz
  have hD := hD0.self (sz := s.heap.size)
  generalize hAe : va_A ([] : va_W) s.heap.size = A at hD ⊢
  have hA : ∀ q : Nat, s.heap.size ≤ q → A q := fun q h => by rw [← hAe]; exact Or.inr h
  have hS : va_S A s.heap s.heap [] := va_S.rf
  have hP : va_P (dC, dI) vwCl ([] : va_W) s.heap := hP
  clear hAe hD0
  have hl := lv_entry ([.int a1]) (n := 1) (Nat.le_of_ble_eq_true rfl)
  rw [lg_entry_eq]
  generalize (lg_sl ([.int a1]) ++ List.replicate (1 - (lg_sl ([.int a1])).length) Slot.unset).toArray = ls at hl ⊢
  have hl : lv_has ls 1 [(0, .int a1)] := hl
  refine jn_H hP hS (fun H locs hP hS => ?_)
  refine lv_iload_n hx hb dJ6_bitCount_0f7a4_0 rfl (lv_at hl 0 rfl) ?_
  refine lv_iload_n hx hb dJ6_bitCount_0f7a4_1 rfl (lv_at hl 0 rfl) ?_
  refine lv_iconst (v := 1) hx hb dJ6_bitCount_0f7a4_2 (by decide) ?_
  refine lv_iushr (v := ((a1 : Int32).toUInt32 >>> ((1 : Int32).toUInt32 &&& Int32.toUInt32 31)).toInt32) hx hb dJ6_bitCount_0f7a4_3 rfl ?_
  refine lv_ldcw (v := 1431655765) hx hb hown (hts _ qJ6_bitCount_0f7a4_0) dJ6_bitCount_0f7a4_4 ?_
  refine lv_iand hx hb dJ6_bitCount_0f7a4_7 ?_
  refine lv_isub hx hb dJ6_bitCount_0f7a4_8 ?_
  refine lv_topi (fun y1 ey1 => ?_)
  refine lv_istore_n (lv' := [(0, .int y1)]) hx hb dJ6_bitCount_0f7a4_9 rfl hl (by decide) rfl (fun ls hl => ?_)
  refine lv_iload_n hx hb dJ6_bitCount_0f7a4_10 rfl (lv_at hl 0 rfl) ?_
  refine lv_ldcw (v := 858993459) hx hb hown (hts _ qJ6_bitCount_0f7a4_1) dJ6_bitCount_0f7a4_11 ?_
  refine lv_iand hx hb dJ6_bitCount_0f7a4_14 ?_
  refine lv_iload_n hx hb dJ6_bitCount_0f7a4_15 rfl (lv_at hl 0 rfl) ?_
  refine lv_iconst (v := 2) hx hb dJ6_bitCount_0f7a4_16 (by decide) ?_
  refine lv_iushr (v := ((y1 : Int32).toUInt32 >>> ((2 : Int32).toUInt32 &&& Int32.toUInt32 31)).toInt32) hx hb dJ6_bitCount_0f7a4_17 rfl ?_
  refine lv_ldcw (v := 858993459) hx hb hown (hts _ qJ6_bitCount_0f7a4_1) dJ6_bitCount_0f7a4_18 ?_
  refine lv_iand hx hb dJ6_bitCount_0f7a4_21 ?_
  refine lv_iadd hx hb dJ6_bitCount_0f7a4_22 ?_
  refine lv_topi (fun y2 ey2 => ?_)
  refine lv_istore_n (lv' := [(0, .int y2)]) hx hb dJ6_bitCount_0f7a4_23 rfl hl (by decide) rfl (fun ls hl => ?_)
  refine lv_iload_n hx hb dJ6_bitCount_0f7a4_24 rfl (lv_at hl 0 rfl) ?_
  refine lv_iload_n hx hb dJ6_bitCount_0f7a4_25 rfl (lv_at hl 0 rfl) ?_
  refine lv_iconst (v := 4) hx hb dJ6_bitCount_0f7a4_26 (by decide) ?_
  refine lv_iushr (v := ((y2 : Int32).toUInt32 >>> ((4 : Int32).toUInt32 &&& Int32.toUInt32 31)).toInt32) hx hb dJ6_bitCount_0f7a4_27 rfl ?_
  refine lv_iadd hx hb dJ6_bitCount_0f7a4_28 ?_
  refine lv_ldcw (v := 252645135) hx hb hown (hts _ qJ6_bitCount_0f7a4_2) dJ6_bitCount_0f7a4_29 ?_
  refine lv_iand hx hb dJ6_bitCount_0f7a4_32 ?_
  refine lv_topi (fun y3 ey3 => ?_)
  refine lv_istore_n (lv' := [(0, .int y3)]) hx hb dJ6_bitCount_0f7a4_33 rfl hl (by decide) rfl (fun ls hl => ?_)
  refine lv_iload_n hx hb dJ6_bitCount_0f7a4_34 rfl (lv_at hl 0 rfl) ?_
  refine lv_iload_n hx hb dJ6_bitCount_0f7a4_35 rfl (lv_at hl 0 rfl) ?_
  refine lv_bipush (v := 8) hx hb dJ6_bitCount_0f7a4_36 (by decide) ?_
  refine lv_iushr (v := ((y3 : Int32).toUInt32 >>> ((8 : Int32).toUInt32 &&& Int32.toUInt32 31)).toInt32) hx hb dJ6_bitCount_0f7a4_38 rfl ?_
  refine lv_iadd hx hb dJ6_bitCount_0f7a4_39 ?_
  refine lv_topi (fun y4 ey4 => ?_)
  refine lv_istore_n (lv' := [(0, .int y4)]) hx hb dJ6_bitCount_0f7a4_40 rfl hl (by decide) rfl (fun ls hl => ?_)
  refine lv_iload_n hx hb dJ6_bitCount_0f7a4_41 rfl (lv_at hl 0 rfl) ?_
  refine lv_iload_n hx hb dJ6_bitCount_0f7a4_42 rfl (lv_at hl 0 rfl) ?_
  refine lv_bipush (v := 16) hx hb dJ6_bitCount_0f7a4_43 (by decide) ?_
  refine lv_iushr (v := ((y4 : Int32).toUInt32 >>> ((16 : Int32).toUInt32 &&& Int32.toUInt32 31)).toInt32) hx hb dJ6_bitCount_0f7a4_45 rfl ?_
  refine lv_iadd hx hb dJ6_bitCount_0f7a4_46 ?_
  refine lv_topi (fun y5 ey5 => ?_)
  refine lv_istore_n (lv' := [(0, .int y5)]) hx hb dJ6_bitCount_0f7a4_47 rfl hl (by decide) rfl (fun ls hl => ?_)
  refine lv_iload_n hx hb dJ6_bitCount_0f7a4_48 rfl (lv_at hl 0 rfl) ?_
  refine lv_bipush (v := 63) hx hb dJ6_bitCount_0f7a4_49 (by decide) ?_
  refine lv_iand hx hb dJ6_bitCount_0f7a4_51 ?_
  exact W.iret (v := (y5 &&& (63 : Int32))) hx hb hr (fun t ht hW => ⟨⟨(y5 &&& (63 : Int32)), (), rfl, ⟨(by subst ey5; subst ey4; subst ey3; subst ey2; subst ey1; rfl), rfl⟩, by rw [ht]; exact hP, va_K.moved hW.alike hK, hD⟩, hS.F ht⟩) hS.2.2 dJ6_bitCount_0f7a4_52

def f_X3_packed (u : FS) : Int32 := ((((((if (bI (gFS_s u)) = (0 : Int32) then 0 else 128 : Int32) ||| (if (bI (gFS_z u)) = (0 : Int32) then 0 else 64 : Int32)) ||| (if (bI (gFS_h u)) = (0 : Int32) then 0 else 16 : Int32)) ||| (if (bI (gFS_p u)) = (0 : Int32) then 0 else 4 : Int32)) ||| (2 : Int32)) ||| (bI (if (bI (gFS_c u)) = (0 : Int32) then false else true : Bool)))
theorem qX3_packed_0 : Cond.fieldLink RX3 7 "DiskMachine$Flags" "sign" "Z" ∈ wsX3_packed := by decide +kernel
theorem qX3_packed_1 : Cond.fieldLink RX3 13 "DiskMachine$Flags" "zero" "Z" ∈ wsX3_packed := by decide +kernel
theorem qX3_packed_2 : Cond.fieldLink RX3 16 "DiskMachine$Flags" "half" "Z" ∈ wsX3_packed := by decide +kernel
theorem qX3_packed_3 : Cond.fieldLink RX3 19 "DiskMachine$Flags" "parity" "Z" ∈ wsX3_packed := by decide +kernel
theorem qX3_packed_4 : Cond.fieldLink RX3 22 "DiskMachine$Flags" "carry" "Z" ∈ wsX3_packed := by decide +kernel
theorem iX3_packed_X3 : ∀ w ∈ wsX30, w ∈ wsX3_packed := by decide +kernel
set_option maxHeartbeats 4000000 in
set_option maxRecDepth 100000 in
theorem k_X3_packed (l : Launch) (dC : Nat → ClassId) (dI : Nat → Nat → Nat) (cI : ClassId) (fO : Nat) (sz : Nat) (u : FS) : Met l yX3_packed wsX3_packed ({ frames := 0, cells := 0, slots := 0, locals := 0 }) (va_Pc [.ref fO] (wB dC dI [(cI, .int)] sz (wF cI fO u))) (va_Qi (fun (r : Int32) (u' : FS) => r = (f_X3_packed u) ∧ u' = u) (fun u' => wE dC dI [(cI, .int)] (va_A (wF cI fO u) sz) (wF cI fO u')) (va_A (wF cI fO u) sz)) 0 0 (va_A (wF cI fO u) sz) := by
  refine Met.ofW (cc := cX3_packed) (maxL := 1) (ret := (some .int)) (by decide) rfl ?_
  intro p e s m args below meth c s₁ B hml hv
  obtain ⟨rfl, hsz, hP, hK, hD0⟩ := hv
  have hx := B.exec
  have hb := B.bytes
  have hr := B.returns
  have hts := atoms_spec (ws := wsX3_packed) B.pre
  have hown : s.vm.findClass RX3 = some m.cls := findClass_of_methodNamed B.named
  have hlocks := B.notSynchronized
  subst hsz
  have hD := hD0.self (sz := s.heap.size)
  generalize hAe : va_A (wF cI fO u) s.heap.size = A at hD ⊢
  have hA : ∀ q : Nat, s.heap.size ≤ q → A q := fun q h => by rw [← hAe]; exact Or.inr h
  have hS : va_S A s.heap s.heap [] := va_S.rf
  have hP : va_P (dC, dI) vwCl (wF cI fO u) s.heap := hP
  clear hAe hD0
  have hl := lv_entry ([.ref fO]) (n := 1) (Nat.le_of_ble_eq_true rfl)
  rw [lg_entry_eq]
  generalize (lg_sl ([.ref fO]) ++ List.replicate (1 - (lg_sl ([.ref fO])).length) Slot.unset).toArray = ls at hl ⊢
  have hl : lv_has ls 1 [(0, .ref fO)] := hl
  refine jn_H hP hS (fun H locs hP hS => ?_)
  refine lv_aload_n hx hb dX3_packed_0 rfl (lv_at hl 0 rfl) ?_
  refine va_get (D := (dC, dI)) (ci := 3) (v := .int (bI (gFS_s u))) (C := RX3) (T := TX3) (N := 5) hx hb hts iX3_packed_X3 hown hK hP 0 rfl rfl 0 (by decide) (hts _ qX3_packed_0) (fun _ h9 => h9) rfl dX3_packed_1 ?_
  refine jn_i (D := (dC, dI)) (cl := vwCl) (ws := (wF cI fO u)) (A := A) (H0 := s.heap) (nL := 1) 14 (if (bI (gFS_s u)) = (0 : Int32) then 0 else 128 : Int32) [(0, .ref fO)] [] (fun H locs ls hP hS hl => ?_) (fun hJ1 => ?_)
  · skip
    refine lv_aload_n hx hb dX3_packed_14 rfl (lv_at hl 0 rfl) ?_
    refine va_get (D := (dC, dI)) (ci := 3) (v := .int (bI (gFS_z u))) (C := RX3) (T := TX3) (N := 5) hx hb hts iX3_packed_X3 hown hK hP 0 rfl rfl 1 (by decide) (hts _ qX3_packed_1) (fun _ h9 => h9) rfl dX3_packed_15 ?_
    refine jn_i (D := (dC, dI)) (cl := vwCl) (ws := (wF cI fO u)) (A := A) (H0 := s.heap) (nL := 1) 27 (if (bI (gFS_z u)) = (0 : Int32) then 0 else 64 : Int32) [(0, .ref fO)] [.int (if (bI (gFS_s u)) = (0 : Int32) then 0 else 128 : Int32)] (fun H locs ls hP hS hl => ?_) (fun hJ2 => ?_)
    · skip
      refine lv_ior hx hb dX3_packed_27 ?_
      refine lv_aload_n hx hb dX3_packed_28 rfl (lv_at hl 0 rfl) ?_
      refine va_get (D := (dC, dI)) (ci := 3) (v := .int (bI (gFS_h u))) (C := RX3) (T := TX3) (N := 5) hx hb hts iX3_packed_X3 hown hK hP 0 rfl rfl 2 (by decide) (hts _ qX3_packed_2) (fun _ h9 => h9) rfl dX3_packed_29 ?_
      refine jn_i (D := (dC, dI)) (cl := vwCl) (ws := (wF cI fO u)) (A := A) (H0 := s.heap) (nL := 1) 41 (if (bI (gFS_h u)) = (0 : Int32) then 0 else 16 : Int32) [(0, .ref fO)] [.int ((if (bI (gFS_s u)) = (0 : Int32) then 0 else 128 : Int32) ||| (if (bI (gFS_z u)) = (0 : Int32) then 0 else 64 : Int32))] (fun H locs ls hP hS hl => ?_) (fun hJ3 => ?_)
      · skip
        refine lv_ior hx hb dX3_packed_41 ?_
        refine lv_aload_n hx hb dX3_packed_42 rfl (lv_at hl 0 rfl) ?_
        refine va_get (D := (dC, dI)) (ci := 3) (v := .int (bI (gFS_p u))) (C := RX3) (T := TX3) (N := 5) hx hb hts iX3_packed_X3 hown hK hP 0 rfl rfl 3 (by decide) (hts _ qX3_packed_3) (fun _ h9 => h9) rfl dX3_packed_43 ?_
        refine jn_i (D := (dC, dI)) (cl := vwCl) (ws := (wF cI fO u)) (A := A) (H0 := s.heap) (nL := 1) 54 (if (bI (gFS_p u)) = (0 : Int32) then 0 else 4 : Int32) [(0, .ref fO)] [.int (((if (bI (gFS_s u)) = (0 : Int32) then 0 else 128 : Int32) ||| (if (bI (gFS_z u)) = (0 : Int32) then 0 else 64 : Int32)) ||| (if (bI (gFS_h u)) = (0 : Int32) then 0 else 16 : Int32))] (fun H locs ls hP hS hl => ?_) (fun hJ4 => ?_)
        · skip
          refine lv_ior hx hb dX3_packed_54 ?_
          refine lv_iconst (v := 2) hx hb dX3_packed_55 (by decide) ?_
          refine lv_ior hx hb dX3_packed_56 ?_
          refine lv_aload_n hx hb dX3_packed_57 rfl (lv_at hl 0 rfl) ?_
          refine va_get (D := (dC, dI)) (ci := 3) (v := .int (bI (gFS_c u))) (C := RX3) (T := TX3) (N := 5) hx hb hts iX3_packed_X3 hown hK hP 0 rfl rfl 4 (by decide) (hts _ qX3_packed_4) (fun _ h9 => h9) rfl dX3_packed_58 ?_
          refine jn_b (D := (dC, dI)) (cl := vwCl) (ws := (wF cI fO u)) (A := A) (H0 := s.heap) (nL := 1) 69 (if (bI (gFS_c u)) = (0 : Int32) then false else true : Bool) [(0, .ref fO)] [.int (((((if (bI (gFS_s u)) = (0 : Int32) then 0 else 128 : Int32) ||| (if (bI (gFS_z u)) = (0 : Int32) then 0 else 64 : Int32)) ||| (if (bI (gFS_h u)) = (0 : Int32) then 0 else 16 : Int32)) ||| (if (bI (gFS_p u)) = (0 : Int32) then 0 else 4 : Int32)) ||| (2 : Int32))] (fun H locs ls hP hS hl => ?_) (fun hJ5 => ?_)
          · skip
            refine lv_ior hx hb dX3_packed_69 ?_
            exact W.iret (v := ((((((if (bI (gFS_s u)) = (0 : Int32) then 0 else 128 : Int32) ||| (if (bI (gFS_z u)) = (0 : Int32) then 0 else 64 : Int32)) ||| (if (bI (gFS_h u)) = (0 : Int32) then 0 else 16 : Int32)) ||| (if (bI (gFS_p u)) = (0 : Int32) then 0 else 4 : Int32)) ||| (2 : Int32)) ||| (bI (if (bI (gFS_c u)) = (0 : Int32) then false else true : Bool)))) hx hb hr (fun t ht hW => ⟨⟨((((((if (bI (gFS_s u)) = (0 : Int32) then 0 else 128 : Int32) ||| (if (bI (gFS_z u)) = (0 : Int32) then 0 else 64 : Int32)) ||| (if (bI (gFS_h u)) = (0 : Int32) then 0 else 16 : Int32)) ||| (if (bI (gFS_p u)) = (0 : Int32) then 0 else 4 : Int32)) ||| (2 : Int32)) ||| (bI (if (bI (gFS_c u)) = (0 : Int32) then false else true : Bool))), u, rfl, ⟨rfl, rfl⟩, by rw [ht]; exact hP, va_K.moved hW.alike hK, hD⟩, hS.F ht⟩) hS.2.2 dX3_packed_70
          · skip
            refine lv_if_eq (tgt := 68) hx hb dX3_packed_61 (by decide) (fun c6 => ?_) (fun c6 => ?_)
            · skip
              refine lv_iconst (v := 0) hx hb dX3_packed_68 (by decide) ?_
              exact hJ5 false _ _ _ (by simp only [if_pos c6]) hP hS (lv_sub hl [0] rfl)
            · skip
              refine lv_iconst (v := 1) hx hb dX3_packed_64 (by decide) ?_
              refine lv_goto (tgt := 69) hx hb dX3_packed_65 (by decide) ?_
              exact hJ5 true _ _ _ (by simp only [if_neg c6]) hP hS (lv_sub hl [0] rfl)
        · skip
          refine lv_if_eq (tgt := 53) hx hb dX3_packed_46 (by decide) (fun c7 => ?_) (fun c7 => ?_)
          · skip
            refine lv_iconst (v := 0) hx hb dX3_packed_53 (by decide) ?_
            exact hJ4 0 _ _ _ (by simp only [if_pos c7]) hP hS (lv_sub hl [0] rfl)
          · skip
            refine lv_iconst (v := 4) hx hb dX3_packed_49 (by decide) ?_
            refine lv_goto (tgt := 54) hx hb dX3_packed_50 (by decide) ?_
            exact hJ4 4 _ _ _ (by simp only [if_neg c7]) hP hS (lv_sub hl [0] rfl)
      · skip
        refine lv_if_eq (tgt := 40) hx hb dX3_packed_32 (by decide) (fun c8 => ?_) (fun c8 => ?_)
        · skip
          refine lv_iconst (v := 0) hx hb dX3_packed_40 (by decide) ?_
          exact hJ3 0 _ _ _ (by simp only [if_pos c8]) hP hS (lv_sub hl [0] rfl)
        · skip
          refine lv_bipush (v := 16) hx hb dX3_packed_35 (by decide) ?_
          refine lv_goto (tgt := 41) hx hb dX3_packed_37 (by decide) ?_
          exact hJ3 16 _ _ _ (by simp only [if_neg c8]) hP hS (lv_sub hl [0] rfl)
    · skip
      refine lv_if_eq (tgt := 26) hx hb dX3_packed_18 (by decide) (fun c9 => ?_) (fun c9 => ?_)
      · skip
        refine lv_iconst (v := 0) hx hb dX3_packed_26 (by decide) ?_
        exact hJ2 0 _ _ _ (by simp only [if_pos c9]) hP hS (lv_sub hl [0] rfl)
      · skip
        refine lv_bipush (v := 64) hx hb dX3_packed_21 (by decide) ?_
        refine lv_goto (tgt := 27) hx hb dX3_packed_23 (by decide) ?_
        exact hJ2 64 _ _ _ (by simp only [if_neg c9]) hP hS (lv_sub hl [0] rfl)
  · skip
    refine lv_if_eq (tgt := 13) hx hb dX3_packed_4 (by decide) (fun c10 => ?_) (fun c10 => ?_)
    · skip
      refine lv_iconst (v := 0) hx hb dX3_packed_13 (by decide) ?_
      exact hJ1 0 _ _ _ (by simp only [if_pos c10]) hP hS (lv_sub hl [0] rfl)
    · skip
      refine lv_sipush (v := 128) hx hb dX3_packed_7 (by decide) ?_
      refine lv_goto (tgt := 14) hx hb dX3_packed_10 (by decide) ?_
      exact hJ1 128 _ _ _ (by simp only [if_neg c10]) hP hS (lv_sub hl [0] rfl)

def f_X3_unpack (u : FS) (a1 : Int32) : FS := (sFS_c (sFS_p (sFS_h (sFS_z (sFS_s u (if (a1 &&& (128 : Int32)) = (0 : Int32) then false else true : Bool)) (if (a1 &&& (64 : Int32)) = (0 : Int32) then false else true : Bool)) (if (a1 &&& (16 : Int32)) = (0 : Int32) then false else true : Bool)) (if (a1 &&& (4 : Int32)) = (0 : Int32) then false else true : Bool)) (if (a1 &&& (1 : Int32)) = (0 : Int32) then false else true : Bool))
theorem qX3_unpack_0 : Cond.fieldLink RX3 7 "DiskMachine$Flags" "sign" "Z" ∈ wsX3_unpack := by decide +kernel
theorem qX3_unpack_1 : Cond.fieldLink RX3 13 "DiskMachine$Flags" "zero" "Z" ∈ wsX3_unpack := by decide +kernel
theorem qX3_unpack_2 : Cond.fieldLink RX3 16 "DiskMachine$Flags" "half" "Z" ∈ wsX3_unpack := by decide +kernel
theorem qX3_unpack_3 : Cond.fieldLink RX3 19 "DiskMachine$Flags" "parity" "Z" ∈ wsX3_unpack := by decide +kernel
theorem qX3_unpack_4 : Cond.fieldLink RX3 22 "DiskMachine$Flags" "carry" "Z" ∈ wsX3_unpack := by decide +kernel
theorem iX3_unpack_X3 : ∀ w ∈ wsX30, w ∈ wsX3_unpack := by decide +kernel
set_option maxHeartbeats 4000000 in
set_option maxRecDepth 100000 in
theorem k_X3_unpack (l : Launch) (dC : Nat → ClassId) (dI : Nat → Nat → Nat) (cI : ClassId) (fO : Nat) (sz : Nat) (u : FS) (a1 : Int32) : Met l yX3_unpack wsX3_unpack ({ frames := 0, cells := 0, slots := 0, locals := 0 }) (va_Pc [.ref fO, .int a1] (wB dC dI [(cI, .int)] sz (wF cI fO u))) (va_Qv (fun u' : FS => u' = (f_X3_unpack u a1)) (fun u' => wE dC dI [(cI, .int)] (va_A (wF cI fO u) sz) (wF cI fO u')) (va_A (wF cI fO u) sz)) 0 0 (va_A (wF cI fO u) sz) := by
  refine Met.ofW (cc := cX3_unpack) (maxL := 2) (ret := none) (by decide) rfl ?_
  intro p e s m args below meth c s₁ B hml hv
  obtain ⟨rfl, hsz, hP, hK, hD0⟩ := hv
  have hx := B.exec
  have hb := B.bytes
  have hr := B.returns
  have hts := atoms_spec (ws := wsX3_unpack) B.pre
  have hown : s.vm.findClass RX3 = some m.cls := findClass_of_methodNamed B.named
  have hlocks := B.notSynchronized
  subst hsz
  have hD := hD0.self (sz := s.heap.size)
  generalize hAe : va_A (wF cI fO u) s.heap.size = A at hD ⊢
  have hA : ∀ q : Nat, s.heap.size ≤ q → A q := fun q h => by rw [← hAe]; exact Or.inr h
  have hS : va_S A s.heap s.heap [] := va_S.rf
  have hP : va_P (dC, dI) vwCl (wF cI fO u) s.heap := hP
  clear hAe hD0
  have hl := lv_entry ([.ref fO, .int a1]) (n := 2) (Nat.le_of_ble_eq_true rfl)
  rw [lg_entry_eq]
  generalize (lg_sl ([.ref fO, .int a1]) ++ List.replicate (2 - (lg_sl ([.ref fO, .int a1])).length) Slot.unset).toArray = ls at hl ⊢
  have hl : lv_has ls 2 [(0, .ref fO), (1, .int a1)] := hl
  refine jn_H hP hS (fun H locs hP hS => ?_)
  refine lv_aload_n hx hb dX3_unpack_0 rfl (lv_at hl 0 rfl) ?_
  refine lv_iload_n hx hb dX3_unpack_1 rfl (lv_at hl 1 rfl) ?_
  refine lv_sipush (v := 128) hx hb dX3_unpack_2 (by decide) ?_
  refine lv_iand hx hb dX3_unpack_5 ?_
  refine jn_b (D := (dC, dI)) (cl := vwCl) (ws := (wF cI fO u)) (A := A) (H0 := s.heap) (nL := 2) 14 (if (a1 &&& (128 : Int32)) = (0 : Int32) then false else true : Bool) [(0, .ref fO), (1, .int a1)] [.ref fO] (fun H locs ls hP hS hl => ?_) (fun hJ1 => ?_)
  · skip
    refine va_put (D := (dC, dI)) (ci := 3) (v := .int (bI (if (a1 &&& (128 : Int32)) = (0 : Int32) then false else true : Bool))) (ty := .boolean) (C := RX3) (T := TX3) (N := 5) hx hb hts iX3_unpack_X3 tyX3 tyX3_ok nmX3 hown hK hP hD hS 0 rfl rfl 0 (by decide) (hts _ qX3_unpack_0) (fun _ h9 => h9) rfl (by decide +kernel) (bI_nar (if (a1 &&& (128 : Int32)) = (0 : Int32) then false else true : Bool)) (bI_fit (if (a1 &&& (128 : Int32)) = (0 : Int32) then false else true : Bool)) (Nat.le_of_ble_eq_true rfl) dX3_unpack_14 (fun H locs hP hD hS => ?_)
    obtain ⟨hP, hD⟩ := pF_s hP hD
    refine lv_aload_n hx hb dX3_unpack_17 rfl (lv_at hl 0 rfl) ?_
    refine lv_iload_n hx hb dX3_unpack_18 rfl (lv_at hl 1 rfl) ?_
    refine lv_bipush (v := 64) hx hb dX3_unpack_19 (by decide) ?_
    refine lv_iand hx hb dX3_unpack_21 ?_
    refine jn_b (D := (dC, dI)) (cl := vwCl) (ws := (wF cI fO (sFS_s u (if (a1 &&& (128 : Int32)) = (0 : Int32) then false else true : Bool)))) (A := A) (H0 := s.heap) (nL := 2) 30 (if (a1 &&& (64 : Int32)) = (0 : Int32) then false else true : Bool) [(0, .ref fO), (1, .int a1)] [.ref fO] (fun H locs ls hP hS hl => ?_) (fun hJ2 => ?_)
    · skip
      refine va_put (D := (dC, dI)) (ci := 3) (v := .int (bI (if (a1 &&& (64 : Int32)) = (0 : Int32) then false else true : Bool))) (ty := .boolean) (C := RX3) (T := TX3) (N := 5) hx hb hts iX3_unpack_X3 tyX3 tyX3_ok nmX3 hown hK hP hD hS 0 rfl rfl 1 (by decide) (hts _ qX3_unpack_1) (fun _ h9 => h9) rfl (by decide +kernel) (bI_nar (if (a1 &&& (64 : Int32)) = (0 : Int32) then false else true : Bool)) (bI_fit (if (a1 &&& (64 : Int32)) = (0 : Int32) then false else true : Bool)) (Nat.le_of_ble_eq_true rfl) dX3_unpack_30 (fun H locs hP hD hS => ?_)
      obtain ⟨hP, hD⟩ := pF_z hP hD
      refine lv_aload_n hx hb dX3_unpack_33 rfl (lv_at hl 0 rfl) ?_
      refine lv_iload_n hx hb dX3_unpack_34 rfl (lv_at hl 1 rfl) ?_
      refine lv_bipush (v := 16) hx hb dX3_unpack_35 (by decide) ?_
      refine lv_iand hx hb dX3_unpack_37 ?_
      refine jn_b (D := (dC, dI)) (cl := vwCl) (ws := (wF cI fO (sFS_z (sFS_s u (if (a1 &&& (128 : Int32)) = (0 : Int32) then false else true : Bool)) (if (a1 &&& (64 : Int32)) = (0 : Int32) then false else true : Bool)))) (A := A) (H0 := s.heap) (nL := 2) 46 (if (a1 &&& (16 : Int32)) = (0 : Int32) then false else true : Bool) [(0, .ref fO), (1, .int a1)] [.ref fO] (fun H locs ls hP hS hl => ?_) (fun hJ3 => ?_)
      · skip
        refine va_put (D := (dC, dI)) (ci := 3) (v := .int (bI (if (a1 &&& (16 : Int32)) = (0 : Int32) then false else true : Bool))) (ty := .boolean) (C := RX3) (T := TX3) (N := 5) hx hb hts iX3_unpack_X3 tyX3 tyX3_ok nmX3 hown hK hP hD hS 0 rfl rfl 2 (by decide) (hts _ qX3_unpack_2) (fun _ h9 => h9) rfl (by decide +kernel) (bI_nar (if (a1 &&& (16 : Int32)) = (0 : Int32) then false else true : Bool)) (bI_fit (if (a1 &&& (16 : Int32)) = (0 : Int32) then false else true : Bool)) (Nat.le_of_ble_eq_true rfl) dX3_unpack_46 (fun H locs hP hD hS => ?_)
        obtain ⟨hP, hD⟩ := pF_h hP hD
        refine lv_aload_n hx hb dX3_unpack_49 rfl (lv_at hl 0 rfl) ?_
        refine lv_iload_n hx hb dX3_unpack_50 rfl (lv_at hl 1 rfl) ?_
        refine lv_iconst (v := 4) hx hb dX3_unpack_51 (by decide) ?_
        refine lv_iand hx hb dX3_unpack_52 ?_
        refine jn_b (D := (dC, dI)) (cl := vwCl) (ws := (wF cI fO (sFS_h (sFS_z (sFS_s u (if (a1 &&& (128 : Int32)) = (0 : Int32) then false else true : Bool)) (if (a1 &&& (64 : Int32)) = (0 : Int32) then false else true : Bool)) (if (a1 &&& (16 : Int32)) = (0 : Int32) then false else true : Bool)))) (A := A) (H0 := s.heap) (nL := 2) 61 (if (a1 &&& (4 : Int32)) = (0 : Int32) then false else true : Bool) [(0, .ref fO), (1, .int a1)] [.ref fO] (fun H locs ls hP hS hl => ?_) (fun hJ4 => ?_)
        · skip
          refine va_put (D := (dC, dI)) (ci := 3) (v := .int (bI (if (a1 &&& (4 : Int32)) = (0 : Int32) then false else true : Bool))) (ty := .boolean) (C := RX3) (T := TX3) (N := 5) hx hb hts iX3_unpack_X3 tyX3 tyX3_ok nmX3 hown hK hP hD hS 0 rfl rfl 3 (by decide) (hts _ qX3_unpack_3) (fun _ h9 => h9) rfl (by decide +kernel) (bI_nar (if (a1 &&& (4 : Int32)) = (0 : Int32) then false else true : Bool)) (bI_fit (if (a1 &&& (4 : Int32)) = (0 : Int32) then false else true : Bool)) (Nat.le_of_ble_eq_true rfl) dX3_unpack_61 (fun H locs hP hD hS => ?_)
          obtain ⟨hP, hD⟩ := pF_p hP hD
          refine lv_aload_n hx hb dX3_unpack_64 rfl (lv_at hl 0 rfl) ?_
          refine lv_iload_n hx hb dX3_unpack_65 rfl (lv_at hl 1 rfl) ?_
          refine lv_iconst (v := 1) hx hb dX3_unpack_66 (by decide) ?_
          refine lv_iand hx hb dX3_unpack_67 ?_
          refine jn_b (D := (dC, dI)) (cl := vwCl) (ws := (wF cI fO (sFS_p (sFS_h (sFS_z (sFS_s u (if (a1 &&& (128 : Int32)) = (0 : Int32) then false else true : Bool)) (if (a1 &&& (64 : Int32)) = (0 : Int32) then false else true : Bool)) (if (a1 &&& (16 : Int32)) = (0 : Int32) then false else true : Bool)) (if (a1 &&& (4 : Int32)) = (0 : Int32) then false else true : Bool)))) (A := A) (H0 := s.heap) (nL := 2) 76 (if (a1 &&& (1 : Int32)) = (0 : Int32) then false else true : Bool) [(0, .ref fO), (1, .int a1)] [.ref fO] (fun H locs ls hP hS hl => ?_) (fun hJ5 => ?_)
          · skip
            refine va_put (D := (dC, dI)) (ci := 3) (v := .int (bI (if (a1 &&& (1 : Int32)) = (0 : Int32) then false else true : Bool))) (ty := .boolean) (C := RX3) (T := TX3) (N := 5) hx hb hts iX3_unpack_X3 tyX3 tyX3_ok nmX3 hown hK hP hD hS 0 rfl rfl 4 (by decide) (hts _ qX3_unpack_4) (fun _ h9 => h9) rfl (by decide +kernel) (bI_nar (if (a1 &&& (1 : Int32)) = (0 : Int32) then false else true : Bool)) (bI_fit (if (a1 &&& (1 : Int32)) = (0 : Int32) then false else true : Bool)) (Nat.le_of_ble_eq_true rfl) dX3_unpack_76 (fun H locs hP hD hS => ?_)
            obtain ⟨hP, hD⟩ := pF_c hP hD
            exact W.vret hx hb hr (fun t ht hW => ⟨⟨(sFS_c (sFS_p (sFS_h (sFS_z (sFS_s u (if (a1 &&& (128 : Int32)) = (0 : Int32) then false else true : Bool)) (if (a1 &&& (64 : Int32)) = (0 : Int32) then false else true : Bool)) (if (a1 &&& (16 : Int32)) = (0 : Int32) then false else true : Bool)) (if (a1 &&& (4 : Int32)) = (0 : Int32) then false else true : Bool)) (if (a1 &&& (1 : Int32)) = (0 : Int32) then false else true : Bool)), rfl, rfl, by rw [ht]; exact hP, va_K.moved hW.alike hK, hD⟩, hS.F ht⟩) hS.2.2 dX3_unpack_79
          · skip
            refine lv_if_eq (tgt := 75) hx hb dX3_unpack_68 (by decide) (fun c6 => ?_) (fun c6 => ?_)
            · skip
              refine lv_iconst (v := 0) hx hb dX3_unpack_75 (by decide) ?_
              exact hJ5 false _ _ _ (by simp only [if_pos c6]) hP hS (lv_sub hl [0, 1] rfl)
            · skip
              refine lv_iconst (v := 1) hx hb dX3_unpack_71 (by decide) ?_
              refine lv_goto (tgt := 76) hx hb dX3_unpack_72 (by decide) ?_
              exact hJ5 true _ _ _ (by simp only [if_neg c6]) hP hS (lv_sub hl [0, 1] rfl)
        · skip
          refine lv_if_eq (tgt := 60) hx hb dX3_unpack_53 (by decide) (fun c7 => ?_) (fun c7 => ?_)
          · skip
            refine lv_iconst (v := 0) hx hb dX3_unpack_60 (by decide) ?_
            exact hJ4 false _ _ _ (by simp only [if_pos c7]) hP hS (lv_sub hl [0, 1] rfl)
          · skip
            refine lv_iconst (v := 1) hx hb dX3_unpack_56 (by decide) ?_
            refine lv_goto (tgt := 61) hx hb dX3_unpack_57 (by decide) ?_
            exact hJ4 true _ _ _ (by simp only [if_neg c7]) hP hS (lv_sub hl [0, 1] rfl)
      · skip
        refine lv_if_eq (tgt := 45) hx hb dX3_unpack_38 (by decide) (fun c8 => ?_) (fun c8 => ?_)
        · skip
          refine lv_iconst (v := 0) hx hb dX3_unpack_45 (by decide) ?_
          exact hJ3 false _ _ _ (by simp only [if_pos c8]) hP hS (lv_sub hl [0, 1] rfl)
        · skip
          refine lv_iconst (v := 1) hx hb dX3_unpack_41 (by decide) ?_
          refine lv_goto (tgt := 46) hx hb dX3_unpack_42 (by decide) ?_
          exact hJ3 true _ _ _ (by simp only [if_neg c8]) hP hS (lv_sub hl [0, 1] rfl)
    · skip
      refine lv_if_eq (tgt := 29) hx hb dX3_unpack_22 (by decide) (fun c9 => ?_) (fun c9 => ?_)
      · skip
        refine lv_iconst (v := 0) hx hb dX3_unpack_29 (by decide) ?_
        exact hJ2 false _ _ _ (by simp only [if_pos c9]) hP hS (lv_sub hl [0, 1] rfl)
      · skip
        refine lv_iconst (v := 1) hx hb dX3_unpack_25 (by decide) ?_
        refine lv_goto (tgt := 30) hx hb dX3_unpack_26 (by decide) ?_
        exact hJ2 true _ _ _ (by simp only [if_neg c9]) hP hS (lv_sub hl [0, 1] rfl)
  · skip
    refine lv_if_eq (tgt := 13) hx hb dX3_unpack_6 (by decide) (fun c10 => ?_) (fun c10 => ?_)
    · skip
      refine lv_iconst (v := 0) hx hb dX3_unpack_13 (by decide) ?_
      exact hJ1 false _ _ _ (by simp only [if_pos c10]) hP hS (lv_sub hl [0, 1] rfl)
    · skip
      refine lv_iconst (v := 1) hx hb dX3_unpack_9 (by decide) ?_
      refine lv_goto (tgt := 14) hx hb dX3_unpack_10 (by decide) ?_
      exact hJ1 true _ _ _ (by simp only [if_neg c10]) hP hS (lv_sub hl [0, 1] rfl)

def f_X3_setLogic (u : FS) (a1 : Int32) : FS := (sFS_p (sFS_z (sFS_s u (if (a1 &&& (128 : Int32)) = (0 : Int32) then false else true : Bool)) (if a1 = (0 : Int32) then true else false : Bool)) (if ((f_J6_bitCount_0f7a4 a1) &&& (1 : Int32)) = (0 : Int32) then true else false : Bool))
theorem qX3_setLogic_0 : Cond.fieldLink RX3 7 "DiskMachine$Flags" "sign" "Z" ∈ wsX3_setLogic := by decide +kernel
theorem qX3_setLogic_1 : Cond.fieldLink RX3 13 "DiskMachine$Flags" "zero" "Z" ∈ wsX3_setLogic := by decide +kernel
theorem qX3_setLogic_2 : Cond.fieldLink RX3 19 "DiskMachine$Flags" "parity" "Z" ∈ wsX3_setLogic := by decide +kernel
theorem iX3_setLogic_X3 : ∀ w ∈ wsX30, w ∈ wsX3_setLogic := by decide +kernel
set_option maxHeartbeats 4000000 in
set_option maxRecDepth 100000 in
theorem k_X3_setLogic (l : Launch) (dC : Nat → ClassId) (dI : Nat → Nat → Nat) (cI : ClassId) (fO : Nat) (sz : Nat) (u : FS) (a1 : Int32) : Met l yX3_setLogic wsX3_setLogic ({ frames := 1, cells := 0, slots := 0, locals := 20 }) (va_Pc [.ref fO, .int a1] (wB dC dI [(cI, .int)] sz (wF cI fO u))) (va_Qv (fun u' : FS => u' = (f_X3_setLogic u a1)) (fun u' => wE dC dI [(cI, .int)] (va_A (wF cI fO u) sz) (wF cI fO u')) (va_A (wF cI fO u) sz)) 0 0 (va_A (wF cI fO u) sz) := by
  refine Met.ofW (cc := cX3_setLogic) (maxL := 2) (ret := none) (by decide) rfl ?_
  intro p e s m args below meth c s₁ B hml hv
  obtain ⟨rfl, hsz, hP, hK, hD0⟩ := hv
  have hx := B.exec
  have hb := B.bytes
  have hr := B.returns
  have hts := atoms_spec (ws := wsX3_setLogic) B.pre
  have hown : s.vm.findClass RX3 = some m.cls := findClass_of_methodNamed B.named
  have hlocks := B.notSynchronized
  subst hsz
  have hD := hD0.self (sz := s.heap.size)
  generalize hAe : va_A (wF cI fO u) s.heap.size = A at hD ⊢
  have hA : ∀ q : Nat, s.heap.size ≤ q → A q := fun q h => by rw [← hAe]; exact Or.inr h
  have hS : va_S A s.heap s.heap [] := va_S.rf
  have hP : va_P (dC, dI) vwCl (wF cI fO u) s.heap := hP
  clear hAe hD0
  have hl := lv_entry ([.ref fO, .int a1]) (n := 2) (Nat.le_of_ble_eq_true rfl)
  rw [lg_entry_eq]
  generalize (lg_sl ([.ref fO, .int a1]) ++ List.replicate (2 - (lg_sl ([.ref fO, .int a1])).length) Slot.unset).toArray = ls at hl ⊢
  have hl : lv_has ls 2 [(0, .ref fO), (1, .int a1)] := hl
  refine jn_H hP hS (fun H locs hP hS => ?_)
  refine lv_aload_n hx hb dX3_setLogic_0 rfl (lv_at hl 0 rfl) ?_
  refine lv_iload_n hx hb dX3_setLogic_1 rfl (lv_at hl 1 rfl) ?_
  refine lv_sipush (v := 128) hx hb dX3_setLogic_2 (by decide) ?_
  refine lv_iand hx hb dX3_setLogic_5 ?_
  refine jn_b (D := (dC, dI)) (cl := vwCl) (ws := (wF cI fO u)) (A := A) (H0 := s.heap) (nL := 2) 14 (if (a1 &&& (128 : Int32)) = (0 : Int32) then false else true : Bool) [(0, .ref fO), (1, .int a1)] [.ref fO] (fun H locs ls hP hS hl => ?_) (fun hJ1 => ?_)
  · skip
    refine va_put (D := (dC, dI)) (ci := 3) (v := .int (bI (if (a1 &&& (128 : Int32)) = (0 : Int32) then false else true : Bool))) (ty := .boolean) (C := RX3) (T := TX3) (N := 5) hx hb hts iX3_setLogic_X3 tyX3 tyX3_ok nmX3 hown hK hP hD hS 0 rfl rfl 0 (by decide) (hts _ qX3_setLogic_0) (fun _ h9 => h9) rfl (by decide +kernel) (bI_nar (if (a1 &&& (128 : Int32)) = (0 : Int32) then false else true : Bool)) (bI_fit (if (a1 &&& (128 : Int32)) = (0 : Int32) then false else true : Bool)) (Nat.le_of_ble_eq_true rfl) dX3_setLogic_14 (fun H locs hP hD hS => ?_)
    obtain ⟨hP, hD⟩ := pF_s hP hD
    refine lv_aload_n hx hb dX3_setLogic_17 rfl (lv_at hl 0 rfl) ?_
    refine lv_iload_n hx hb dX3_setLogic_18 rfl (lv_at hl 1 rfl) ?_
    refine jn_b (D := (dC, dI)) (cl := vwCl) (ws := (wF cI fO (sFS_s u (if (a1 &&& (128 : Int32)) = (0 : Int32) then false else true : Bool)))) (A := A) (H0 := s.heap) (nL := 2) 27 (if a1 = (0 : Int32) then true else false : Bool) [(0, .ref fO), (1, .int a1)] [.ref fO] (fun H locs ls hP hS hl => ?_) (fun hJ2 => ?_)
    · skip
      refine va_put (D := (dC, dI)) (ci := 3) (v := .int (bI (if a1 = (0 : Int32) then true else false : Bool))) (ty := .boolean) (C := RX3) (T := TX3) (N := 5) hx hb hts iX3_setLogic_X3 tyX3 tyX3_ok nmX3 hown hK hP hD hS 0 rfl rfl 1 (by decide) (hts _ qX3_setLogic_1) (fun _ h9 => h9) rfl (by decide +kernel) (bI_nar (if a1 = (0 : Int32) then true else false : Bool)) (bI_fit (if a1 = (0 : Int32) then true else false : Bool)) (Nat.le_of_ble_eq_true rfl) dX3_setLogic_27 (fun H locs hP hD hS => ?_)
      obtain ⟨hP, hD⟩ := pF_z hP hD
      refine lv_aload_n hx hb dX3_setLogic_30 rfl (lv_at hl 0 rfl) ?_
      refine lv_iload_n hx hb dX3_setLogic_31 rfl (lv_at hl 1 rfl) ?_
      have hPc := hP.sub (ws' := ([] : va_W)) [] rfl
      have hDc := hD.sub (ws' := ([] : va_W)) [] (by decide) rfl
      have hFc := va_free (wc := ([] : va_W)) hD hS hA [] rfl
      have hKc := hK.sub (tys' := []) [] rfl
      refine va_calli (va_runS (As := [.int a1]) (rest := [.ref fO]) ⟨hx, hb, hml, hown, hts⟩ (k_J6_bitCount_0f7a4 l dC dI H.size a1) (va_cwS 1 hts gX3_setLogic_J6_bitCount_0f7a4 rfl rfl rfl (by decide +kernel) ⟨Nat.le_of_ble_eq_true rfl, Nat.le_of_ble_eq_true rfl⟩) ⟨fun a U g mk q => by obtain ⟨q0, q1, qP, qK, qD⟩ := q; exact ⟨q0, q1, qP, va_K.moved (u := U) (U := U.calling g mk a) (Vm.Alike.refl U.vm) qK, qD⟩, fun U hU hW => ⟨rfl, by rw [hU], by rw [hU]; exact hPc, va_K.moved hW.alike hKc, hDc.weaken (fun _ _ _ _ => trivial)⟩⟩ rfl rfl hl.1 rfl (lv_room (Nat.le_of_ble_eq_true rfl)) dX3_setLogic_32 ⟨Nat.le_of_ble_eq_true rfl, Nat.le_of_ble_eq_true rfl⟩) hS (fun q _ h => hFc q h) hFc (fun r9 u9 t H1 locs ht hvm hw hB hz1 hk1 hS => ?_)
      obtain ⟨hw1, hw2⟩ := hw
      have hw2 := hw2.symm
      subst hw1 hw2
      obtain ⟨hP1, hK1, hD1⟩ := hB
      rw [ht] at hP1
      obtain ⟨hP, hD⟩ := jN_any (ws := (wF cI fO (sFS_z (sFS_s u (if (a1 &&& (128 : Int32)) = (0 : Int32) then false else true : Bool)) (if a1 = (0 : Int32) then true else false : Bool)))) hP hD hk1
      clear hPc hDc hKc hFc hz1 hk1 hP1 hK1 hD1 ht hvm
      generalize H1 = H at hP hS ⊢
      refine lv_iconst (v := 1) hx hb dX3_setLogic_35 (by decide) ?_
      refine lv_iand hx hb dX3_setLogic_36 ?_
      refine jn_b (D := (dC, dI)) (cl := vwCl) (ws := (wF cI fO (sFS_z (sFS_s u (if (a1 &&& (128 : Int32)) = (0 : Int32) then false else true : Bool)) (if a1 = (0 : Int32) then true else false : Bool)))) (A := A) (H0 := s.heap) (nL := 2) 45 (if ((f_J6_bitCount_0f7a4 a1) &&& (1 : Int32)) = (0 : Int32) then true else false : Bool) [(0, .ref fO), (1, .int a1)] [.ref fO] (fun H locs ls hP hS hl => ?_) (fun hJ3 => ?_)
      · skip
        refine va_put (D := (dC, dI)) (ci := 3) (v := .int (bI (if ((f_J6_bitCount_0f7a4 a1) &&& (1 : Int32)) = (0 : Int32) then true else false : Bool))) (ty := .boolean) (C := RX3) (T := TX3) (N := 5) hx hb hts iX3_setLogic_X3 tyX3 tyX3_ok nmX3 hown hK hP hD hS 0 rfl rfl 3 (by decide) (hts _ qX3_setLogic_2) (fun _ h9 => h9) rfl (by decide +kernel) (bI_nar (if ((f_J6_bitCount_0f7a4 a1) &&& (1 : Int32)) = (0 : Int32) then true else false : Bool)) (bI_fit (if ((f_J6_bitCount_0f7a4 a1) &&& (1 : Int32)) = (0 : Int32) then true else false : Bool)) (Nat.le_of_ble_eq_true rfl) dX3_setLogic_45 (fun H locs hP hD hS => ?_)
        obtain ⟨hP, hD⟩ := pF_p hP hD
        exact W.vret hx hb hr (fun t ht hW => ⟨⟨(sFS_p (sFS_z (sFS_s u (if (a1 &&& (128 : Int32)) = (0 : Int32) then false else true : Bool)) (if a1 = (0 : Int32) then true else false : Bool)) (if ((f_J6_bitCount_0f7a4 a1) &&& (1 : Int32)) = (0 : Int32) then true else false : Bool)), rfl, rfl, by rw [ht]; exact hP, va_K.moved hW.alike hK, hD⟩, hS.F ht⟩) hS.2.2 dX3_setLogic_48
      · skip
        refine lv_if_ne (tgt := 44) hx hb dX3_setLogic_37 (by decide) (fun c4 => ?_) (fun c4 => ?_)
        · skip
          refine lv_iconst (v := 0) hx hb dX3_setLogic_44 (by decide) ?_
          exact hJ3 false _ _ _ (by simp only [if_neg c4]) hP hS (lv_sub hl [0, 1] rfl)
        · skip
          refine lv_iconst (v := 1) hx hb dX3_setLogic_40 (by decide) ?_
          refine lv_goto (tgt := 45) hx hb dX3_setLogic_41 (by decide) ?_
          exact hJ3 true _ _ _ (by simp only [if_pos c4]) hP hS (lv_sub hl [0, 1] rfl)
    · skip
      refine lv_if_ne (tgt := 26) hx hb dX3_setLogic_19 (by decide) (fun c5 => ?_) (fun c5 => ?_)
      · skip
        refine lv_iconst (v := 0) hx hb dX3_setLogic_26 (by decide) ?_
        exact hJ2 false _ _ _ (by simp only [if_neg c5]) hP hS (lv_sub hl [0, 1] rfl)
      · skip
        refine lv_iconst (v := 1) hx hb dX3_setLogic_22 (by decide) ?_
        refine lv_goto (tgt := 27) hx hb dX3_setLogic_23 (by decide) ?_
        exact hJ2 true _ _ _ (by simp only [if_pos c5]) hP hS (lv_sub hl [0, 1] rfl)
  · skip
    refine lv_if_eq (tgt := 13) hx hb dX3_setLogic_6 (by decide) (fun c6 => ?_) (fun c6 => ?_)
    · skip
      refine lv_iconst (v := 0) hx hb dX3_setLogic_13 (by decide) ?_
      exact hJ1 false _ _ _ (by simp only [if_pos c6]) hP hS (lv_sub hl [0, 1] rfl)
    · skip
      refine lv_iconst (v := 1) hx hb dX3_setLogic_9 (by decide) ?_
      refine lv_goto (tgt := 14) hx hb dX3_setLogic_10 (by decide) ?_
      exact hJ1 true _ _ _ (by simp only [if_neg c6]) hP hS (lv_sub hl [0, 1] rfl)

def f_X3_setHalf (u : FS) (a1 : Bool) : FS := (sFS_h u a1)
theorem qX3_setHalf_0 : Cond.fieldLink RX3 16 "DiskMachine$Flags" "half" "Z" ∈ wsX3_setHalf := by decide +kernel
theorem iX3_setHalf_X3 : ∀ w ∈ wsX30, w ∈ wsX3_setHalf := by decide +kernel
set_option maxHeartbeats 4000000 in
set_option maxRecDepth 100000 in
theorem k_X3_setHalf (l : Launch) (dC : Nat → ClassId) (dI : Nat → Nat → Nat) (cI : ClassId) (fO : Nat) (sz : Nat) (u : FS) (a1 : Bool) : Met l yX3_setHalf wsX3_setHalf ({ frames := 0, cells := 0, slots := 0, locals := 0 }) (va_Pc [.ref fO, .int (bI a1)] (wB dC dI [(cI, .int)] sz (wF cI fO u))) (va_Qv (fun u' : FS => u' = (f_X3_setHalf u a1)) (fun u' => wE dC dI [(cI, .int)] (va_A (wF cI fO u) sz) (wF cI fO u')) (va_A (wF cI fO u) sz)) 0 0 (va_A (wF cI fO u) sz) := by
  refine Met.ofW (cc := cX3_setHalf) (maxL := 2) (ret := none) (by decide) rfl ?_
  intro p e s m args below meth c s₁ B hml hv
  obtain ⟨rfl, hsz, hP, hK, hD0⟩ := hv
  have hx := B.exec
  have hb := B.bytes
  have hr := B.returns
  have hts := atoms_spec (ws := wsX3_setHalf) B.pre
  have hown : s.vm.findClass RX3 = some m.cls := findClass_of_methodNamed B.named
  have hlocks := B.notSynchronized
  subst hsz
  have hD := hD0.self (sz := s.heap.size)
  generalize hAe : va_A (wF cI fO u) s.heap.size = A at hD ⊢
  have hA : ∀ q : Nat, s.heap.size ≤ q → A q := fun q h => by rw [← hAe]; exact Or.inr h
  have hS : va_S A s.heap s.heap [] := va_S.rf
  have hP : va_P (dC, dI) vwCl (wF cI fO u) s.heap := hP
  clear hAe hD0
  have hl := lv_entry ([.ref fO, .int (bI a1)]) (n := 2) (Nat.le_of_ble_eq_true rfl)
  rw [lg_entry_eq]
  generalize (lg_sl ([.ref fO, .int (bI a1)]) ++ List.replicate (2 - (lg_sl ([.ref fO, .int (bI a1)])).length) Slot.unset).toArray = ls at hl ⊢
  have hl : lv_has ls 2 [(0, .ref fO), (1, .int (bI a1))] := hl
  refine jn_H hP hS (fun H locs hP hS => ?_)
  refine lv_aload_n hx hb dX3_setHalf_0 rfl (lv_at hl 0 rfl) ?_
  refine lv_iload_n hx hb dX3_setHalf_1 rfl (lv_at hl 1 rfl) ?_
  refine va_put (D := (dC, dI)) (ci := 3) (v := .int (bI a1)) (ty := .boolean) (C := RX3) (T := TX3) (N := 5) hx hb hts iX3_setHalf_X3 tyX3 tyX3_ok nmX3 hown hK hP hD hS 0 rfl rfl 2 (by decide) (hts _ qX3_setHalf_0) (fun _ h9 => h9) rfl (by decide +kernel) (bI_nar a1) (bI_fit a1) (Nat.le_of_ble_eq_true rfl) dX3_setHalf_2 (fun H locs hP hD hS => ?_)
  obtain ⟨hP, hD⟩ := pF_h hP hD
  exact W.vret hx hb hr (fun t ht hW => ⟨⟨(sFS_h u a1), rfl, rfl, by rw [ht]; exact hP, va_K.moved hW.alike hK, hD⟩, hS.F ht⟩) hS.2.2 dX3_setHalf_5

def f_X3_setCarry (u : FS) (a1 : Bool) : FS := (sFS_c u a1)
theorem qX3_setCarry_0 : Cond.fieldLink RX3 22 "DiskMachine$Flags" "carry" "Z" ∈ wsX3_setCarry := by decide +kernel
theorem iX3_setCarry_X3 : ∀ w ∈ wsX30, w ∈ wsX3_setCarry := by decide +kernel
set_option maxHeartbeats 4000000 in
set_option maxRecDepth 100000 in
theorem k_X3_setCarry (l : Launch) (dC : Nat → ClassId) (dI : Nat → Nat → Nat) (cI : ClassId) (fO : Nat) (sz : Nat) (u : FS) (a1 : Bool) : Met l yX3_setCarry wsX3_setCarry ({ frames := 0, cells := 0, slots := 0, locals := 0 }) (va_Pc [.ref fO, .int (bI a1)] (wB dC dI [(cI, .int)] sz (wF cI fO u))) (va_Qv (fun u' : FS => u' = (f_X3_setCarry u a1)) (fun u' => wE dC dI [(cI, .int)] (va_A (wF cI fO u) sz) (wF cI fO u')) (va_A (wF cI fO u) sz)) 0 0 (va_A (wF cI fO u) sz) := by
  refine Met.ofW (cc := cX3_setCarry) (maxL := 2) (ret := none) (by decide) rfl ?_
  intro p e s m args below meth c s₁ B hml hv
  obtain ⟨rfl, hsz, hP, hK, hD0⟩ := hv
  have hx := B.exec
  have hb := B.bytes
  have hr := B.returns
  have hts := atoms_spec (ws := wsX3_setCarry) B.pre
  have hown : s.vm.findClass RX3 = some m.cls := findClass_of_methodNamed B.named
  have hlocks := B.notSynchronized
  subst hsz
  have hD := hD0.self (sz := s.heap.size)
  generalize hAe : va_A (wF cI fO u) s.heap.size = A at hD ⊢
  have hA : ∀ q : Nat, s.heap.size ≤ q → A q := fun q h => by rw [← hAe]; exact Or.inr h
  have hS : va_S A s.heap s.heap [] := va_S.rf
  have hP : va_P (dC, dI) vwCl (wF cI fO u) s.heap := hP
  clear hAe hD0
  have hl := lv_entry ([.ref fO, .int (bI a1)]) (n := 2) (Nat.le_of_ble_eq_true rfl)
  rw [lg_entry_eq]
  generalize (lg_sl ([.ref fO, .int (bI a1)]) ++ List.replicate (2 - (lg_sl ([.ref fO, .int (bI a1)])).length) Slot.unset).toArray = ls at hl ⊢
  have hl : lv_has ls 2 [(0, .ref fO), (1, .int (bI a1))] := hl
  refine jn_H hP hS (fun H locs hP hS => ?_)
  refine lv_aload_n hx hb dX3_setCarry_0 rfl (lv_at hl 0 rfl) ?_
  refine lv_iload_n hx hb dX3_setCarry_1 rfl (lv_at hl 1 rfl) ?_
  refine va_put (D := (dC, dI)) (ci := 3) (v := .int (bI a1)) (ty := .boolean) (C := RX3) (T := TX3) (N := 5) hx hb hts iX3_setCarry_X3 tyX3 tyX3_ok nmX3 hown hK hP hD hS 0 rfl rfl 4 (by decide) (hts _ qX3_setCarry_0) (fun _ h9 => h9) rfl (by decide +kernel) (bI_nar a1) (bI_fit a1) (Nat.le_of_ble_eq_true rfl) dX3_setCarry_2 (fun H locs hP hD hS => ?_)
  obtain ⟨hP, hD⟩ := pF_c hP hD
  exact W.vret hx hb hr (fun t ht hW => ⟨⟨(sFS_c u a1), rfl, rfl, by rw [ht]; exact hP, va_K.moved hW.alike hK, hD⟩, hS.F ht⟩) hS.2.2 dX3_setCarry_5

def f_X3_hasHalf (u : FS) : Bool := (gFS_h u)
theorem qX3_hasHalf_0 : Cond.fieldLink RX3 16 "DiskMachine$Flags" "half" "Z" ∈ wsX3_hasHalf := by decide +kernel
theorem iX3_hasHalf_X3 : ∀ w ∈ wsX30, w ∈ wsX3_hasHalf := by decide +kernel
set_option maxHeartbeats 4000000 in
set_option maxRecDepth 100000 in
theorem k_X3_hasHalf (l : Launch) (dC : Nat → ClassId) (dI : Nat → Nat → Nat) (cI : ClassId) (fO : Nat) (sz : Nat) (u : FS) : Met l yX3_hasHalf wsX3_hasHalf ({ frames := 0, cells := 0, slots := 0, locals := 0 }) (va_Pc [.ref fO] (wB dC dI [(cI, .int)] sz (wF cI fO u))) (va_Qi (fun (r : Int32) (u' : FS) => r = (bI (f_X3_hasHalf u)) ∧ u' = u) (fun u' => wE dC dI [(cI, .int)] (va_A (wF cI fO u) sz) (wF cI fO u')) (va_A (wF cI fO u) sz)) 0 0 (va_A (wF cI fO u) sz) := by
  refine Met.ofW (cc := cX3_hasHalf) (maxL := 1) (ret := (some .boolean)) (by decide) rfl ?_
  intro p e s m args below meth c s₁ B hml hv
  obtain ⟨rfl, hsz, hP, hK, hD0⟩ := hv
  have hx := B.exec
  have hb := B.bytes
  have hr := B.returns
  have hts := atoms_spec (ws := wsX3_hasHalf) B.pre
  have hown : s.vm.findClass RX3 = some m.cls := findClass_of_methodNamed B.named
  have hlocks := B.notSynchronized
  subst hsz
  have hD := hD0.self (sz := s.heap.size)
  generalize hAe : va_A (wF cI fO u) s.heap.size = A at hD ⊢
  have hA : ∀ q : Nat, s.heap.size ≤ q → A q := fun q h => by rw [← hAe]; exact Or.inr h
  have hS : va_S A s.heap s.heap [] := va_S.rf
  have hP : va_P (dC, dI) vwCl (wF cI fO u) s.heap := hP
  clear hAe hD0
  have hl := lv_entry ([.ref fO]) (n := 1) (Nat.le_of_ble_eq_true rfl)
  rw [lg_entry_eq]
  generalize (lg_sl ([.ref fO]) ++ List.replicate (1 - (lg_sl ([.ref fO])).length) Slot.unset).toArray = ls at hl ⊢
  have hl : lv_has ls 1 [(0, .ref fO)] := hl
  refine jn_H hP hS (fun H locs hP hS => ?_)
  refine lv_aload_n hx hb dX3_hasHalf_0 rfl (lv_at hl 0 rfl) ?_
  refine va_get (D := (dC, dI)) (ci := 3) (v := .int (bI (gFS_h u))) (C := RX3) (T := TX3) (N := 5) hx hb hts iX3_hasHalf_X3 hown hK hP 0 rfl rfl 2 (by decide) (hts _ qX3_hasHalf_0) (fun _ h9 => h9) rfl dX3_hasHalf_1 ?_
  exact W.zret (v := (bI (gFS_h u))) hx hb hr (bI_nar (gFS_h u)) (fun t ht hW => ⟨⟨(bI (gFS_h u)), u, rfl, ⟨rfl, rfl⟩, by rw [ht]; exact hP, va_K.moved hW.alike hK, hD⟩, hS.F ht⟩) hS.2.2 dX3_hasHalf_4

def f_X3_hasCarry (u : FS) : Bool := (gFS_c u)
theorem qX3_hasCarry_0 : Cond.fieldLink RX3 22 "DiskMachine$Flags" "carry" "Z" ∈ wsX3_hasCarry := by decide +kernel
theorem iX3_hasCarry_X3 : ∀ w ∈ wsX30, w ∈ wsX3_hasCarry := by decide +kernel
set_option maxHeartbeats 4000000 in
set_option maxRecDepth 100000 in
theorem k_X3_hasCarry (l : Launch) (dC : Nat → ClassId) (dI : Nat → Nat → Nat) (cI : ClassId) (fO : Nat) (sz : Nat) (u : FS) : Met l yX3_hasCarry wsX3_hasCarry ({ frames := 0, cells := 0, slots := 0, locals := 0 }) (va_Pc [.ref fO] (wB dC dI [(cI, .int)] sz (wF cI fO u))) (va_Qi (fun (r : Int32) (u' : FS) => r = (bI (f_X3_hasCarry u)) ∧ u' = u) (fun u' => wE dC dI [(cI, .int)] (va_A (wF cI fO u) sz) (wF cI fO u')) (va_A (wF cI fO u) sz)) 0 0 (va_A (wF cI fO u) sz) := by
  refine Met.ofW (cc := cX3_hasCarry) (maxL := 1) (ret := (some .boolean)) (by decide) rfl ?_
  intro p e s m args below meth c s₁ B hml hv
  obtain ⟨rfl, hsz, hP, hK, hD0⟩ := hv
  have hx := B.exec
  have hb := B.bytes
  have hr := B.returns
  have hts := atoms_spec (ws := wsX3_hasCarry) B.pre
  have hown : s.vm.findClass RX3 = some m.cls := findClass_of_methodNamed B.named
  have hlocks := B.notSynchronized
  subst hsz
  have hD := hD0.self (sz := s.heap.size)
  generalize hAe : va_A (wF cI fO u) s.heap.size = A at hD ⊢
  have hA : ∀ q : Nat, s.heap.size ≤ q → A q := fun q h => by rw [← hAe]; exact Or.inr h
  have hS : va_S A s.heap s.heap [] := va_S.rf
  have hP : va_P (dC, dI) vwCl (wF cI fO u) s.heap := hP
  clear hAe hD0
  have hl := lv_entry ([.ref fO]) (n := 1) (Nat.le_of_ble_eq_true rfl)
  rw [lg_entry_eq]
  generalize (lg_sl ([.ref fO]) ++ List.replicate (1 - (lg_sl ([.ref fO])).length) Slot.unset).toArray = ls at hl ⊢
  have hl : lv_has ls 1 [(0, .ref fO)] := hl
  refine jn_H hP hS (fun H locs hP hS => ?_)
  refine lv_aload_n hx hb dX3_hasCarry_0 rfl (lv_at hl 0 rfl) ?_
  refine va_get (D := (dC, dI)) (ci := 3) (v := .int (bI (gFS_c u))) (C := RX3) (T := TX3) (N := 5) hx hb hts iX3_hasCarry_X3 hown hK hP 0 rfl rfl 4 (by decide) (hts _ qX3_hasCarry_0) (fun _ h9 => h9) rfl dX3_hasCarry_1 ?_
  exact W.zret (v := (bI (gFS_c u))) hx hb hr (bI_nar (gFS_c u)) (fun t ht hW => ⟨⟨(bI (gFS_c u)), u, rfl, ⟨rfl, rfl⟩, by rw [ht]; exact hP, va_K.moved hW.alike hK, hD⟩, hS.F ht⟩) hS.2.2 dX3_hasCarry_4

def f_X3_carryBit (u : FS) : Int32 := (bI (if (bI (gFS_c u)) = (0 : Int32) then false else true : Bool))
theorem qX3_carryBit_0 : Cond.fieldLink RX3 22 "DiskMachine$Flags" "carry" "Z" ∈ wsX3_carryBit := by decide +kernel
theorem iX3_carryBit_X3 : ∀ w ∈ wsX30, w ∈ wsX3_carryBit := by decide +kernel
set_option maxHeartbeats 4000000 in
set_option maxRecDepth 100000 in
theorem k_X3_carryBit (l : Launch) (dC : Nat → ClassId) (dI : Nat → Nat → Nat) (cI : ClassId) (fO : Nat) (sz : Nat) (u : FS) : Met l yX3_carryBit wsX3_carryBit ({ frames := 0, cells := 0, slots := 0, locals := 0 }) (va_Pc [.ref fO] (wB dC dI [(cI, .int)] sz (wF cI fO u))) (va_Qi (fun (r : Int32) (u' : FS) => r = (f_X3_carryBit u) ∧ u' = u) (fun u' => wE dC dI [(cI, .int)] (va_A (wF cI fO u) sz) (wF cI fO u')) (va_A (wF cI fO u) sz)) 0 0 (va_A (wF cI fO u) sz) := by
  refine Met.ofW (cc := cX3_carryBit) (maxL := 1) (ret := (some .int)) (by decide) rfl ?_
  intro p e s m args below meth c s₁ B hml hv
  obtain ⟨rfl, hsz, hP, hK, hD0⟩ := hv
  have hx := B.exec
  have hb := B.bytes
  have hr := B.returns
  have hts := atoms_spec (ws := wsX3_carryBit) B.pre
  have hown : s.vm.findClass RX3 = some m.cls := findClass_of_methodNamed B.named
  have hlocks := B.notSynchronized
  subst hsz
  have hD := hD0.self (sz := s.heap.size)
  generalize hAe : va_A (wF cI fO u) s.heap.size = A at hD ⊢
  have hA : ∀ q : Nat, s.heap.size ≤ q → A q := fun q h => by rw [← hAe]; exact Or.inr h
  have hS : va_S A s.heap s.heap [] := va_S.rf
  have hP : va_P (dC, dI) vwCl (wF cI fO u) s.heap := hP
  clear hAe hD0
  have hl := lv_entry ([.ref fO]) (n := 1) (Nat.le_of_ble_eq_true rfl)
  rw [lg_entry_eq]
  generalize (lg_sl ([.ref fO]) ++ List.replicate (1 - (lg_sl ([.ref fO])).length) Slot.unset).toArray = ls at hl ⊢
  have hl : lv_has ls 1 [(0, .ref fO)] := hl
  refine jn_H hP hS (fun H locs hP hS => ?_)
  refine lv_aload_n hx hb dX3_carryBit_0 rfl (lv_at hl 0 rfl) ?_
  refine va_get (D := (dC, dI)) (ci := 3) (v := .int (bI (gFS_c u))) (C := RX3) (T := TX3) (N := 5) hx hb hts iX3_carryBit_X3 hown hK hP 0 rfl rfl 4 (by decide) (hts _ qX3_carryBit_0) (fun _ h9 => h9) rfl dX3_carryBit_1 ?_
  refine jn_b (D := (dC, dI)) (cl := vwCl) (ws := (wF cI fO u)) (A := A) (H0 := s.heap) (nL := 1) 12 (if (bI (gFS_c u)) = (0 : Int32) then false else true : Bool) [(0, .ref fO)] [] (fun H locs ls hP hS hl => ?_) (fun hJ1 => ?_)
  · skip
    exact W.iret (v := (bI (if (bI (gFS_c u)) = (0 : Int32) then false else true : Bool))) hx hb hr (fun t ht hW => ⟨⟨(bI (if (bI (gFS_c u)) = (0 : Int32) then false else true : Bool)), u, rfl, ⟨rfl, rfl⟩, by rw [ht]; exact hP, va_K.moved hW.alike hK, hD⟩, hS.F ht⟩) hS.2.2 dX3_carryBit_12
  · skip
    refine lv_if_eq (tgt := 11) hx hb dX3_carryBit_4 (by decide) (fun c2 => ?_) (fun c2 => ?_)
    · skip
      refine lv_iconst (v := 0) hx hb dX3_carryBit_11 (by decide) ?_
      exact hJ1 false _ _ _ (by simp only [if_pos c2]) hP hS (lv_sub hl [0] rfl)
    · skip
      refine lv_iconst (v := 1) hx hb dX3_carryBit_7 (by decide) ?_
      refine lv_goto (tgt := 12) hx hb dX3_carryBit_8 (by decide) ?_
      exact hJ1 true _ _ _ (by simp only [if_neg c2]) hP hS (lv_sub hl [0] rfl)

def f_X3_holds (u : FS) (a1 : Int32) : Bool := 
  if (a1 >>> ((1 : Int32) &&& 31)) = 0 then (if (bI (gFS_z u)) = (bI (if (a1 &&& (1 : Int32)) = (0 : Int32) then false else true : Bool)) then true else false : Bool)
  else 
    if (a1 >>> ((1 : Int32) &&& 31)) = 1 then (if (bI (gFS_c u)) = (bI (if (a1 &&& (1 : Int32)) = (0 : Int32) then false else true : Bool)) then true else false : Bool)
    else 
      if (a1 >>> ((1 : Int32) &&& 31)) = 2 then (if (bI (gFS_p u)) = (bI (if (a1 &&& (1 : Int32)) = (0 : Int32) then false else true : Bool)) then true else false : Bool)
      else (if (bI (gFS_s u)) = (bI (if (a1 &&& (1 : Int32)) = (0 : Int32) then false else true : Bool)) then true else false : Bool)
theorem qX3_holds_0 : Cond.fieldLink RX3 7 "DiskMachine$Flags" "sign" "Z" ∈ wsX3_holds := by decide +kernel
theorem qX3_holds_1 : Cond.fieldLink RX3 19 "DiskMachine$Flags" "parity" "Z" ∈ wsX3_holds := by decide +kernel
theorem qX3_holds_2 : Cond.fieldLink RX3 22 "DiskMachine$Flags" "carry" "Z" ∈ wsX3_holds := by decide +kernel
theorem qX3_holds_3 : Cond.fieldLink RX3 13 "DiskMachine$Flags" "zero" "Z" ∈ wsX3_holds := by decide +kernel
theorem iX3_holds_X3 : ∀ w ∈ wsX30, w ∈ wsX3_holds := by decide +kernel
set_option maxHeartbeats 4000000 in
set_option maxRecDepth 100000 in
theorem k_X3_holds (l : Launch) (dC : Nat → ClassId) (dI : Nat → Nat → Nat) (cI : ClassId) (fO : Nat) (sz : Nat) (u : FS) (a1 : Int32) : Met l yX3_holds wsX3_holds ({ frames := 0, cells := 0, slots := 0, locals := 0 }) (va_Pc [.ref fO, .int a1] (wB dC dI [(cI, .int)] sz (wF cI fO u))) (va_Qi (fun (r : Int32) (u' : FS) => r = (bI (f_X3_holds u a1)) ∧ u' = u) (fun u' => wE dC dI [(cI, .int)] (va_A (wF cI fO u) sz) (wF cI fO u')) (va_A (wF cI fO u) sz)) 0 0 (va_A (wF cI fO u) sz) := by
  refine Met.ofW (cc := cX3_holds) (maxL := 3) (ret := (some .boolean)) (by decide) rfl ?_
  intro p e s m args below meth c s₁ B hml hv
  obtain ⟨rfl, hsz, hP, hK, hD0⟩ := hv
  have hx := B.exec
  have hb := B.bytes
  have hr := B.returns
  have hts := atoms_spec (ws := wsX3_holds) B.pre
  have hown : s.vm.findClass RX3 = some m.cls := findClass_of_methodNamed B.named
  have hlocks := B.notSynchronized
  subst hsz
  have hD := hD0.self (sz := s.heap.size)
  generalize hAe : va_A (wF cI fO u) s.heap.size = A at hD ⊢
  have hA : ∀ q : Nat, s.heap.size ≤ q → A q := fun q h => by rw [← hAe]; exact Or.inr h
  have hS : va_S A s.heap s.heap [] := va_S.rf
  have hP : va_P (dC, dI) vwCl (wF cI fO u) s.heap := hP
  clear hAe hD0
  have hl := lv_entry ([.ref fO, .int a1]) (n := 3) (Nat.le_of_ble_eq_true rfl)
  rw [lg_entry_eq]
  generalize (lg_sl ([.ref fO, .int a1]) ++ List.replicate (3 - (lg_sl ([.ref fO, .int a1])).length) Slot.unset).toArray = ls at hl ⊢
  have hl : lv_has ls 3 [(0, .ref fO), (1, .int a1)] := hl
  refine jn_H hP hS (fun H locs hP hS => ?_)
  refine lv_iload_n hx hb dX3_holds_0 rfl (lv_at hl 1 rfl) ?_
  refine lv_iconst (v := 1) hx hb dX3_holds_1 (by decide) ?_
  refine lv_iand hx hb dX3_holds_2 ?_
  refine jn_b (D := (dC, dI)) (cl := vwCl) (ws := (wF cI fO u)) (A := A) (H0 := s.heap) (nL := 3) 11 (if (a1 &&& (1 : Int32)) = (0 : Int32) then false else true : Bool) [(0, .ref fO), (1, .int a1)] [] (fun H locs ls hP hS hl => ?_) (fun hJ1 => ?_)
  · skip
    refine lv_istore_n (lv' := [(2, .int (bI (if (a1 &&& (1 : Int32)) = (0 : Int32) then false else true : Bool))), (0, .ref fO), (1, .int a1)]) hx hb dX3_holds_11 rfl hl (by decide) rfl (fun ls hl => ?_)
    refine lv_iload_n hx hb dX3_holds_12 rfl (lv_at hl 2 rfl) ?_
    refine lv_iconst (v := 1) hx hb dX3_holds_13 (by decide) ?_
    refine lv_ishr hx hb dX3_holds_14 ?_
    by_cases c2 : (a1 >>> ((1 : Int32) &&& 31)) = 0
    · refine tb_in (k := 0) (off := 25) (tgt := 40) hx hb dX3_holds_15 c2 (by decide) (by decide) (by decide) (by decide) ?_
      refine lv_aload_n hx hb dX3_holds_40 rfl (lv_at hl 1 rfl) ?_
      refine va_get (D := (dC, dI)) (ci := 3) (v := .int (bI (gFS_z u))) (C := RX3) (T := TX3) (N := 5) hx hb hts iX3_holds_X3 hown hK hP 0 rfl rfl 1 (by decide) (hts _ qX3_holds_3) (fun _ h9 => h9) rfl dX3_holds_41 ?_
      refine lv_iload_n hx hb dX3_holds_44 rfl (lv_at hl 0 rfl) ?_
      refine jn_b (D := (dC, dI)) (cl := vwCl) (ws := (wF cI fO u)) (A := A) (H0 := s.heap) (nL := 3) 53 (if (bI (gFS_z u)) = (bI (if (a1 &&& (1 : Int32)) = (0 : Int32) then false else true : Bool)) then true else false : Bool) [(0, .ref fO), (1, .int a1), (2, .int (bI (if (a1 &&& (1 : Int32)) = (0 : Int32) then false else true : Bool)))] [] (fun H locs ls hP hS hl => ?_) (fun hJ3 => ?_)
      · skip
        exact W.zret (v := (bI (if (bI (gFS_z u)) = (bI (if (a1 &&& (1 : Int32)) = (0 : Int32) then false else true : Bool)) then true else false : Bool))) hx hb hr (bI_nar (if (bI (gFS_z u)) = (bI (if (a1 &&& (1 : Int32)) = (0 : Int32) then false else true : Bool)) then true else false : Bool)) (fun t ht hW => ⟨⟨(bI (if (bI (gFS_z u)) = (bI (if (a1 &&& (1 : Int32)) = (0 : Int32) then false else true : Bool)) then true else false : Bool)), u, rfl, ⟨(by simp only [f_X3_holds, if_pos c2]), rfl⟩, by rw [ht]; exact hP, va_K.moved hW.alike hK, hD⟩, hS.F ht⟩) hS.2.2 dX3_holds_53
      · skip
        refine lv_icmp_ne (tgt := 52) hx hb dX3_holds_45 (by decide) (fun c4 => ?_) (fun c4 => ?_)
        · skip
          refine lv_iconst (v := 0) hx hb dX3_holds_52 (by decide) ?_
          exact hJ3 false _ _ _ (by simp only [if_neg c4]) hP hS (lv_sub hl [1, 2, 0] rfl)
        · skip
          refine lv_iconst (v := 1) hx hb dX3_holds_48 (by decide) ?_
          refine lv_goto (tgt := 53) hx hb dX3_holds_49 (by decide) ?_
          exact hJ3 true _ _ _ (by simp only [if_pos c4]) hP hS (lv_sub hl [1, 2, 0] rfl)
    · skip
      by_cases c5 : (a1 >>> ((1 : Int32) &&& 31)) = 1
      · refine tb_in (k := 1) (off := 39) (tgt := 54) hx hb dX3_holds_15 c5 (by decide) (by decide) (by decide) (by decide) ?_
        refine lv_aload_n hx hb dX3_holds_54 rfl (lv_at hl 1 rfl) ?_
        refine va_get (D := (dC, dI)) (ci := 3) (v := .int (bI (gFS_c u))) (C := RX3) (T := TX3) (N := 5) hx hb hts iX3_holds_X3 hown hK hP 0 rfl rfl 4 (by decide) (hts _ qX3_holds_2) (fun _ h9 => h9) rfl dX3_holds_55 ?_
        refine lv_iload_n hx hb dX3_holds_58 rfl (lv_at hl 0 rfl) ?_
        refine jn_b (D := (dC, dI)) (cl := vwCl) (ws := (wF cI fO u)) (A := A) (H0 := s.heap) (nL := 3) 67 (if (bI (gFS_c u)) = (bI (if (a1 &&& (1 : Int32)) = (0 : Int32) then false else true : Bool)) then true else false : Bool) [(0, .ref fO), (1, .int a1), (2, .int (bI (if (a1 &&& (1 : Int32)) = (0 : Int32) then false else true : Bool)))] [] (fun H locs ls hP hS hl => ?_) (fun hJ6 => ?_)
        · skip
          exact W.zret (v := (bI (if (bI (gFS_c u)) = (bI (if (a1 &&& (1 : Int32)) = (0 : Int32) then false else true : Bool)) then true else false : Bool))) hx hb hr (bI_nar (if (bI (gFS_c u)) = (bI (if (a1 &&& (1 : Int32)) = (0 : Int32) then false else true : Bool)) then true else false : Bool)) (fun t ht hW => ⟨⟨(bI (if (bI (gFS_c u)) = (bI (if (a1 &&& (1 : Int32)) = (0 : Int32) then false else true : Bool)) then true else false : Bool)), u, rfl, ⟨(by simp only [f_X3_holds, if_neg c2, if_pos c5]), rfl⟩, by rw [ht]; exact hP, va_K.moved hW.alike hK, hD⟩, hS.F ht⟩) hS.2.2 dX3_holds_67
        · skip
          refine lv_icmp_ne (tgt := 66) hx hb dX3_holds_59 (by decide) (fun c7 => ?_) (fun c7 => ?_)
          · skip
            refine lv_iconst (v := 0) hx hb dX3_holds_66 (by decide) ?_
            exact hJ6 false _ _ _ (by simp only [if_neg c7]) hP hS (lv_sub hl [1, 2, 0] rfl)
          · skip
            refine lv_iconst (v := 1) hx hb dX3_holds_62 (by decide) ?_
            refine lv_goto (tgt := 67) hx hb dX3_holds_63 (by decide) ?_
            exact hJ6 true _ _ _ (by simp only [if_pos c7]) hP hS (lv_sub hl [1, 2, 0] rfl)
      · skip
        by_cases c8 : (a1 >>> ((1 : Int32) &&& 31)) = 2
        · refine tb_in (k := 2) (off := 53) (tgt := 68) hx hb dX3_holds_15 c8 (by decide) (by decide) (by decide) (by decide) ?_
          refine lv_aload_n hx hb dX3_holds_68 rfl (lv_at hl 1 rfl) ?_
          refine va_get (D := (dC, dI)) (ci := 3) (v := .int (bI (gFS_p u))) (C := RX3) (T := TX3) (N := 5) hx hb hts iX3_holds_X3 hown hK hP 0 rfl rfl 3 (by decide) (hts _ qX3_holds_1) (fun _ h9 => h9) rfl dX3_holds_69 ?_
          refine lv_iload_n hx hb dX3_holds_72 rfl (lv_at hl 0 rfl) ?_
          refine jn_b (D := (dC, dI)) (cl := vwCl) (ws := (wF cI fO u)) (A := A) (H0 := s.heap) (nL := 3) 81 (if (bI (gFS_p u)) = (bI (if (a1 &&& (1 : Int32)) = (0 : Int32) then false else true : Bool)) then true else false : Bool) [(0, .ref fO), (1, .int a1), (2, .int (bI (if (a1 &&& (1 : Int32)) = (0 : Int32) then false else true : Bool)))] [] (fun H locs ls hP hS hl => ?_) (fun hJ9 => ?_)
          · skip
            exact W.zret (v := (bI (if (bI (gFS_p u)) = (bI (if (a1 &&& (1 : Int32)) = (0 : Int32) then false else true : Bool)) then true else false : Bool))) hx hb hr (bI_nar (if (bI (gFS_p u)) = (bI (if (a1 &&& (1 : Int32)) = (0 : Int32) then false else true : Bool)) then true else false : Bool)) (fun t ht hW => ⟨⟨(bI (if (bI (gFS_p u)) = (bI (if (a1 &&& (1 : Int32)) = (0 : Int32) then false else true : Bool)) then true else false : Bool)), u, rfl, ⟨(by simp only [f_X3_holds, if_neg c2, if_neg c5, if_pos c8]), rfl⟩, by rw [ht]; exact hP, va_K.moved hW.alike hK, hD⟩, hS.F ht⟩) hS.2.2 dX3_holds_81
          · skip
            refine lv_icmp_ne (tgt := 80) hx hb dX3_holds_73 (by decide) (fun c10 => ?_) (fun c10 => ?_)
            · skip
              refine lv_iconst (v := 0) hx hb dX3_holds_80 (by decide) ?_
              exact hJ9 false _ _ _ (by simp only [if_neg c10]) hP hS (lv_sub hl [1, 2, 0] rfl)
            · skip
              refine lv_iconst (v := 1) hx hb dX3_holds_76 (by decide) ?_
              refine lv_goto (tgt := 81) hx hb dX3_holds_77 (by decide) ?_
              exact hJ9 true _ _ _ (by simp only [if_pos c10]) hP hS (lv_sub hl [1, 2, 0] rfl)
        · skip
          refine lv_tableOut (tgt := 82) hx hb dX3_holds_15 (by have r0 := lv_neT c2 (a := 0) (by decide); have r1 := lv_neT c5 (a := 1) (by decide); have r2 := lv_neT c8 (a := 2) (by decide); omega) (by decide) ?_
          refine lv_aload_n hx hb dX3_holds_82 rfl (lv_at hl 1 rfl) ?_
          refine va_get (D := (dC, dI)) (ci := 3) (v := .int (bI (gFS_s u))) (C := RX3) (T := TX3) (N := 5) hx hb hts iX3_holds_X3 hown hK hP 0 rfl rfl 0 (by decide) (hts _ qX3_holds_0) (fun _ h9 => h9) rfl dX3_holds_83 ?_
          refine lv_iload_n hx hb dX3_holds_86 rfl (lv_at hl 0 rfl) ?_
          refine jn_b (D := (dC, dI)) (cl := vwCl) (ws := (wF cI fO u)) (A := A) (H0 := s.heap) (nL := 3) 95 (if (bI (gFS_s u)) = (bI (if (a1 &&& (1 : Int32)) = (0 : Int32) then false else true : Bool)) then true else false : Bool) [(0, .ref fO), (1, .int a1), (2, .int (bI (if (a1 &&& (1 : Int32)) = (0 : Int32) then false else true : Bool)))] [] (fun H locs ls hP hS hl => ?_) (fun hJ11 => ?_)
          · skip
            exact W.zret (v := (bI (if (bI (gFS_s u)) = (bI (if (a1 &&& (1 : Int32)) = (0 : Int32) then false else true : Bool)) then true else false : Bool))) hx hb hr (bI_nar (if (bI (gFS_s u)) = (bI (if (a1 &&& (1 : Int32)) = (0 : Int32) then false else true : Bool)) then true else false : Bool)) (fun t ht hW => ⟨⟨(bI (if (bI (gFS_s u)) = (bI (if (a1 &&& (1 : Int32)) = (0 : Int32) then false else true : Bool)) then true else false : Bool)), u, rfl, ⟨(by simp only [f_X3_holds, if_neg c2, if_neg c5, if_neg c8]), rfl⟩, by rw [ht]; exact hP, va_K.moved hW.alike hK, hD⟩, hS.F ht⟩) hS.2.2 dX3_holds_95
          · skip
            refine lv_icmp_ne (tgt := 94) hx hb dX3_holds_87 (by decide) (fun c12 => ?_) (fun c12 => ?_)
            · skip
              refine lv_iconst (v := 0) hx hb dX3_holds_94 (by decide) ?_
              exact hJ11 false _ _ _ (by simp only [if_neg c12]) hP hS (lv_sub hl [1, 2, 0] rfl)
            · skip
              refine lv_iconst (v := 1) hx hb dX3_holds_90 (by decide) ?_
              refine lv_goto (tgt := 95) hx hb dX3_holds_91 (by decide) ?_
              exact hJ11 true _ _ _ (by simp only [if_pos c12]) hP hS (lv_sub hl [1, 2, 0] rfl)
  · skip
    refine lv_if_eq (tgt := 10) hx hb dX3_holds_3 (by decide) (fun c13 => ?_) (fun c13 => ?_)
    · skip
      refine lv_iconst (v := 0) hx hb dX3_holds_10 (by decide) ?_
      exact hJ1 false _ _ _ (by simp only [if_pos c13]) hP hS (lv_sub hl [0, 1] rfl)
    · skip
      refine lv_iconst (v := 1) hx hb dX3_holds_6 (by decide) ?_
      refine lv_goto (tgt := 11) hx hb dX3_holds_7 (by decide) ?_
      exact hJ1 true _ _ _ (by simp only [if_neg c13]) hP hS (lv_sub hl [0, 1] rfl)
