theorem qX4_init_0 : Cond.methodLink RX4 3 objectInit ∈ wsX4_init := by decide +kernel
theorem qX4_init_1 : Cond.instanceMethod objectInit ∈ wsX4_init := by decide +kernel
theorem qX4_init_2 : Cond.code objectInit ⟨#[0xb1]⟩ 1 none ∈ wsX4_init := by decide +kernel
theorem qX4_init_3 : Cond.classLink RX4 9 RX3 ∈ wsX4_init := by decide +kernel
theorem qX4_init_4 : Cond.instantiable RX3 5 ∈ wsX4_init := by decide +kernel
theorem qX4_init_5 : Cond.initialized RX3 ∈ wsX4_init := by decide +kernel
theorem qX4_init_6 : Cond.instanceMethod yX3_init ∈ wsX4_init := by decide +kernel
theorem qX4_init_7 : Cond.fieldLink RX4 12 "DiskMachine$Processor" "flags" "LDiskMachine$Flags;" ∈ wsX4_init := by decide +kernel
theorem qX4_init_8 : Cond.classLink RX4 18 RX0 ∈ wsX4_init := by decide +kernel
theorem qX4_init_9 : Cond.instantiable RX0 1 ∈ wsX4_init := by decide +kernel
theorem qX4_init_10 : Cond.initialized RX0 ∈ wsX4_init := by decide +kernel
theorem qX4_init_11 : Cond.instanceMethod yX0_init ∈ wsX4_init := by decide +kernel
theorem qX4_init_12 : Cond.methodLink RX4 20 yX0_init ∈ wsX4_init := by decide +kernel
theorem qX4_init_13 : Cond.fieldLink RX4 23 "DiskMachine$Processor" "arithmetic" "LDiskMachine$Arithmetic;" ∈ wsX4_init := by decide +kernel
theorem qX4_init_14 : Cond.arrayClass .int ∈ wsX4_init := by decide +kernel
theorem qX4_init_15 : Cond.fieldLink RX4 27 "DiskMachine$Processor" "registers" "[I" ∈ wsX4_init := by decide +kernel
theorem qX4_init_16 : Cond.fieldLink RX4 31 "DiskMachine$Processor" "wanted" "I" ∈ wsX4_init := by decide +kernel
theorem qX4_init_17 : Cond.fieldLink RX4 35 "DiskMachine$Processor" "memory" "LDiskMachine$Store;" ∈ wsX4_init := by decide +kernel
theorem qX4_init_18 : Cond.fieldLink RX4 39 "DiskMachine$Processor" "console" "LDiskMachine$Console;" ∈ wsX4_init := by decide +kernel
theorem qX4_init_19 : Cond.fieldLink RX4 43 "DiskMachine$Processor" "controller" "LDiskMachine$Controller;" ∈ wsX4_init := by decide +kernel
theorem iX4_init_X3 : ∀ w ∈ wsX30, w ∈ wsX4_init := by decide +kernel
theorem iX4_init_X4 : ∀ w ∈ wsX40, w ∈ wsX4_init := by decide +kernel
theorem iX4_init_X0 : ∀ w ∈ wsX00, w ∈ wsX4_init := by decide +kernel
set_option maxHeartbeats 4000000 in
set_option maxRecDepth 100000 in
theorem k_X4_init (l : Launch) (dC : Nat → ClassId) (dI : Nat → Nat → Nat) (cI : ClassId) (pO mS cO kO : Nat) (sz : Nat) : Met l yX4_init wsX4_init ({ frames := 2, cells := 3, slots := 14, locals := 33 }) (va_Pc [.ref pO, .ref mS, .ref cO, .ref kO] (wBN dC dI [(cI, .int)] sz [(pO, .inr (4, [.null, .null, .null, .null, .null, .null, .int 0, .int 0, .int 0, .int 0, .int 0, .int 0, .long 0]))])) (va_Qv (fun _ : Nat × Nat × Nat => True) (fun (q : Nat × Nat × Nat) => wE dC dI [(cI, .int)] (va_A [(pO, .inr (4, [.null, .null, .null, .null, .null, .null, .int 0, .int 0, .int 0, .int 0, .int 0, .int 0, .long 0]))] sz) [(pO, .inr (4, [.ref mS, .ref cO, .ref kO, .ref q.1, .ref q.2.1, .ref q.2.2, .int 0, .int 0, .int 0, .int 0, .int 0, .int (-1), .long 0])), (q.1, .inr (3, [.int 0, .int 0, .int 0, .int 0, .int 0])), (q.2.1, .inr (0, [.ref q.1])), (q.2.2, .inl (cI, 8, .inl (fun _ => 0)))]) (va_A [(pO, .inr (4, [.null, .null, .null, .null, .null, .null, .int 0, .int 0, .int 0, .int 0, .int 0, .int 0, .long 0]))] sz)) 3 14 (va_A [(pO, .inr (4, [.null, .null, .null, .null, .null, .null, .int 0, .int 0, .int 0, .int 0, .int 0, .int 0, .long 0]))] sz) := by
  refine Met.ofW (cc := cX4_init) (maxL := 4) (ret := none) (by decide) rfl ?_
  intro p e s m args below meth c s₁ B hml hv
  obtain ⟨rfl, hsz, hP, hK, hD0, hN⟩ := hv
  have hx := B.exec
  have hb := B.bytes
  have hr := B.returns
  have hts := atoms_spec (ws := wsX4_init) B.pre
  have hown : s.vm.findClass RX4 = some m.cls := findClass_of_methodNamed B.named
  have hlocks := B.notSynchronized
  have hin : meth.name = "<init>" := (name_of_methodNamed B.named B.method).1
  subst hsz
  have hD := hD0.self (sz := s.heap.size)
  generalize hAe : va_A [(pO, .inr (4, [.null, .null, .null, .null, .null, .null, .int 0, .int 0, .int 0, .int 0, .int 0, .int 0, .long 0]))] s.heap.size = A at hD ⊢
  have hA : ∀ q : Nat, s.heap.size ≤ q → A q := fun q h => by rw [← hAe]; exact Or.inr h
  have hS : va_S A s.heap s.heap [] := va_S.rf
  have hP : va_P (dC, dI) vwCl [(pO, .inr (4, [.null, .null, .null, .null, .null, .null, .int 0, .int 0, .int 0, .int 0, .int 0, .int 0, .long 0]))] s.heap := hP
  clear hAe hD0
  have hl := lv_entry ([.ref pO, .ref mS, .ref cO, .ref kO]) (n := 4) (Nat.le_of_ble_eq_true rfl)
  rw [lg_entry_eq]
  generalize (lg_sl ([.ref pO, .ref mS, .ref cO, .ref kO]) ++ List.replicate (4 - (lg_sl ([.ref pO, .ref mS, .ref cO, .ref kO])).length) Slot.unset).toArray = ls at hl ⊢
  have hl : lv_has ls 4 [(0, .ref pO), (1, .ref mS), (2, .ref cO), (3, .ref kO)] := hl
  refine jn_H hP hS (fun H locs hP hS => ?_)
  refine lv_aload_n hx hb dX4_init_0 rfl (lv_at hl 0 rfl) ?_
  refine W.objInit hx hb hown (hts _ qX4_init_0) (hts _ qX4_init_1) (hts _ qX4_init_2) rfl (by rw [hml]; exact hl.1) rfl dX4_init_1 (Nat.le_of_ble_eq_true rfl) (Nat.le_of_ble_eq_true rfl) ?_
  refine W.eq (g2 := F0 m 4 ls []) rfl ?_
  refine lv_aload_n hx hb dX4_init_4 rfl (lv_at hl 0 rfl) ?_
  refine va_new (ci := 3) (fs := [.int 0, .int 0, .int 0, .int 0, .int 0]) (C := RX3) (T := TX3) (N := 5) hx hb hts iX4_init_X3 tyX3 tyX3_ok hown (hts _ qX4_init_3) (hts _ qX4_init_4) (hts _ qX4_init_5) hK hP hD hS hA rfl (fun j hj => by rcases (show j = 0 ∨ j = 1 ∨ j = 2 ∨ j = 3 ∨ j = 4 by omega) with rfl | rfl | rfl | rfl | rfl <;> rfl) (Nat.le_of_ble_eq_true rfl) (Nat.le_of_ble_eq_true rfl) dX4_init_5 (fun n1 H hP hD hS => ?_)
  have hP : va_P (dC, dI) vwCl [(pO, .inr (4, [.null, .null, .null, .null, .null, .null, .int 0, .int 0, .int 0, .int 0, .int 0, .int 0, .long 0])), (n1, .inr (3, [.int 0, .int 0, .int 0, .int 0, .int 0]))] H := hP
  have hD : va_D A [(pO, .inr (4, [.null, .null, .null, .null, .null, .null, .int 0, .int 0, .int 0, .int 0, .int 0, .int 0, .long 0])), (n1, .inr (3, [.int 0, .int 0, .int 0, .int 0, .int 0]))] := hD
  refine lv_dup hx hb dX4_init_8 rfl ?_
  have hPc := hP.sub (ws' := [(n1, .inr (3, [.int 0, .int 0, .int 0, .int 0, .int 0]))]) [1] rfl
  have hDc := hD.sub (ws' := [(n1, .inr (3, [.int 0, .int 0, .int 0, .int 0, .int 0]))]) [1] (by decide) rfl
  have hKc := hK.sub (tys' := [(cI, .int)]) [0] rfl
  have hFc := va_free (wc := [(n1, .inr (3, [.int 0, .int 0, .int 0, .int 0, .int 0]))]) hD hS hA [1] rfl
  refine va_callv (va_runIN (As := []) (rest := [.ref n1, .ref pO]) ⟨hx, hb, hml, hown, hts⟩ (k_X3_init l dC dI cI n1 H.size) ⟨va_cnB (host := "DiskMachine") 0 hts gX4_init_X3_init_n11 rfl rfl rfl (hN _ (by decide +kernel)) (hts _ qX4_init_5) (by decide +kernel) ⟨Nat.le_of_ble_eq_true rfl, Nat.le_of_ble_eq_true rfl⟩, rfl, hts _ qX4_init_6⟩ ⟨fun a U g mk q => by obtain ⟨q0, q1, qP, qK, qD⟩ := q; exact ⟨q0, q1, qP, va_K.moved (u := U) (U := U.calling g mk a) (Vm.Alike.refl U.vm) qK, qD⟩, fun U hU hW => ⟨rfl, by rw [hU], by rw [hU]; exact hPc, va_K.moved hW.alike hKc, hDc.weaken (fun _ _ _ _ => trivial)⟩⟩ rfl rfl hl.1 rfl (lv_room (Nat.le_of_ble_eq_true rfl)) dX4_init_9 ⟨Nat.le_of_ble_eq_true rfl, Nat.le_of_ble_eq_true rfl⟩) hS (fun q _ h => hFc q h) hFc (fun u9 t H1 locs ht hvm hw hB hz1 hk1 hS => ?_)
  obtain ⟨hP1, hK1, hD1⟩ := hB
  rw [ht] at hP1
  obtain ⟨hP, hD⟩ := va_join (wr := [(pO, .inr (4, [.null, .null, .null, .null, .null, .null, .int 0, .int 0, .int 0, .int 0, .int 0, .int 0, .long 0]))]) (w1 := [(n1, .inr (3, [.int 0, .int 0, .int 0, .int 0, .int 0]))]) hP hD [1] [0] rfl rfl (by decide) (by decide) hk1 hFc hP1 hD1
  clear hPc hDc hKc hFc hz1 hk1 hP1 hK1 hD1 ht hvm
  have hP : va_P (dC, dI) vwCl [(pO, .inr (4, [.null, .null, .null, .null, .null, .null, .int 0, .int 0, .int 0, .int 0, .int 0, .int 0, .long 0])), (n1, .inr (3, [.int 0, .int 0, .int 0, .int 0, .int 0]))] H1 := hP
  have hD : va_D A [(pO, .inr (4, [.null, .null, .null, .null, .null, .null, .int 0, .int 0, .int 0, .int 0, .int 0, .int 0, .long 0])), (n1, .inr (3, [.int 0, .int 0, .int 0, .int 0, .int 0]))] := hD
  generalize H1 = H at hP hS ⊢
  refine va_putF (D := (dC, dI)) (ci := 4) (v := .ref n1) (ty := (.object "DiskMachine$Flags")) (C := RX4) (T := TX4) (N := 13) hx hb hts iX4_init_X4 tyX4 tyX4_ok nmX4 hown hK hP hD hS 0 rfl rfl 3 (by decide) (hts _ qX4_init_7) (fun _ h9 => h9) rfl hin rfl (by decide +kernel) rfl rfl (Nat.le_of_ble_eq_true rfl) dX4_init_12 (fun H locs hP hD hS => ?_)
  have hP : va_P (dC, dI) vwCl [(pO, .inr (4, [.null, .null, .null, .ref n1, .null, .null, .int 0, .int 0, .int 0, .int 0, .int 0, .int 0, .long 0])), (n1, .inr (3, [.int 0, .int 0, .int 0, .int 0, .int 0]))] H := hP
  have hD : va_D A [(pO, .inr (4, [.null, .null, .null, .ref n1, .null, .null, .int 0, .int 0, .int 0, .int 0, .int 0, .int 0, .long 0])), (n1, .inr (3, [.int 0, .int 0, .int 0, .int 0, .int 0]))] := hD
  refine lv_aload_n hx hb dX4_init_15 rfl (lv_at hl 0 rfl) ?_
  refine va_new (ci := 0) (fs := [.null]) (C := RX0) (T := TX0) (N := 1) hx hb hts iX4_init_X0 tyX0 tyX0_ok hown (hts _ qX4_init_8) (hts _ qX4_init_9) (hts _ qX4_init_10) hK hP hD hS hA rfl (fun j hj => by rcases (show j = 0 by omega) with rfl <;> rfl) (Nat.le_of_ble_eq_true rfl) (Nat.le_of_ble_eq_true rfl) dX4_init_16 (fun n2 H hP hD hS => ?_)
  have hP : va_P (dC, dI) vwCl [(pO, .inr (4, [.null, .null, .null, .ref n1, .null, .null, .int 0, .int 0, .int 0, .int 0, .int 0, .int 0, .long 0])), (n1, .inr (3, [.int 0, .int 0, .int 0, .int 0, .int 0])), (n2, .inr (0, [.null]))] H := hP
  have hD : va_D A [(pO, .inr (4, [.null, .null, .null, .ref n1, .null, .null, .int 0, .int 0, .int 0, .int 0, .int 0, .int 0, .long 0])), (n1, .inr (3, [.int 0, .int 0, .int 0, .int 0, .int 0])), (n2, .inr (0, [.null]))] := hD
  refine lv_dup hx hb dX4_init_19 rfl ?_
  refine lv_aload_n hx hb dX4_init_20 rfl (lv_at hl 0 rfl) ?_
  refine va_get (D := (dC, dI)) (ci := 4) (v := .ref n1) (C := RX4) (T := TX4) (N := 13) hx hb hts iX4_init_X4 hown hK hP 0 rfl rfl 3 (by decide) (hts _ qX4_init_7) (fun _ h9 => h9) rfl dX4_init_21 ?_
  have hPc := hP.sub (ws' := [(n2, .inr (0, [.null]))]) [2] rfl
  have hDc := hD.sub (ws' := [(n2, .inr (0, [.null]))]) [2] (by decide) rfl
  have hKc := hK.sub (tys' := [(cI, .int)]) [0] rfl
  have hFc := va_free (wc := [(n2, .inr (0, [.null]))]) hD hS hA [2] rfl
  refine va_callv (va_runI (As := [.ref n1]) (rest := [.ref n2, .ref pO]) ⟨hx, hb, hml, hown, hts⟩ (k_X0_init l dC dI cI n2 n1 H.size) (cwI 1 hts gX4_init_X0_init rfl rfl rfl (hts _ qX4_init_10) (hts _ qX4_init_12) (hts _ qX4_init_11) rfl (by decide +kernel) ⟨Nat.le_of_ble_eq_true rfl, Nat.le_of_ble_eq_true rfl⟩) ⟨fun a U g mk q => by obtain ⟨q0, q1, qP, qK, qD⟩ := q; exact ⟨q0, q1, qP, va_K.moved (u := U) (U := U.calling g mk a) (Vm.Alike.refl U.vm) qK, qD⟩, fun U hU hW => ⟨rfl, by rw [hU], by rw [hU]; exact hPc, va_K.moved hW.alike hKc, hDc.weaken (fun _ _ _ _ => trivial)⟩⟩ rfl rfl hl.1 rfl (lv_room (Nat.le_of_ble_eq_true rfl)) dX4_init_24 ⟨Nat.le_of_ble_eq_true rfl, Nat.le_of_ble_eq_true rfl⟩) hS (fun q _ h => hFc q h) hFc (fun u9 t H1 locs ht hvm hw hB hz1 hk1 hS => ?_)
  obtain ⟨hP1, hK1, hD1⟩ := hB
  rw [ht] at hP1
  obtain ⟨hP, hD⟩ := va_join (wr := [(pO, .inr (4, [.null, .null, .null, .ref n1, .null, .null, .int 0, .int 0, .int 0, .int 0, .int 0, .int 0, .long 0])), (n1, .inr (3, [.int 0, .int 0, .int 0, .int 0, .int 0]))]) (w1 := [(n2, .inr (0, [.ref n1]))]) hP hD [2] [0, 1] rfl rfl (by decide) (by decide) hk1 hFc hP1 hD1
  clear hPc hDc hKc hFc hz1 hk1 hP1 hK1 hD1 ht hvm
  have hP : va_P (dC, dI) vwCl [(pO, .inr (4, [.null, .null, .null, .ref n1, .null, .null, .int 0, .int 0, .int 0, .int 0, .int 0, .int 0, .long 0])), (n1, .inr (3, [.int 0, .int 0, .int 0, .int 0, .int 0])), (n2, .inr (0, [.ref n1]))] H1 := hP
  have hD : va_D A [(pO, .inr (4, [.null, .null, .null, .ref n1, .null, .null, .int 0, .int 0, .int 0, .int 0, .int 0, .int 0, .long 0])), (n1, .inr (3, [.int 0, .int 0, .int 0, .int 0, .int 0])), (n2, .inr (0, [.ref n1]))] := hD
  generalize H1 = H at hP hS ⊢
  refine va_putF (D := (dC, dI)) (ci := 4) (v := .ref n2) (ty := (.object "DiskMachine$Arithmetic")) (C := RX4) (T := TX4) (N := 13) hx hb hts iX4_init_X4 tyX4 tyX4_ok nmX4 hown hK hP hD hS 0 rfl rfl 4 (by decide) (hts _ qX4_init_13) (fun _ h9 => h9) rfl hin rfl (by decide +kernel) rfl rfl (Nat.le_of_ble_eq_true rfl) dX4_init_27 (fun H locs hP hD hS => ?_)
  have hP : va_P (dC, dI) vwCl [(pO, .inr (4, [.null, .null, .null, .ref n1, .ref n2, .null, .int 0, .int 0, .int 0, .int 0, .int 0, .int 0, .long 0])), (n1, .inr (3, [.int 0, .int 0, .int 0, .int 0, .int 0])), (n2, .inr (0, [.ref n1]))] H := hP
  have hD : va_D A [(pO, .inr (4, [.null, .null, .null, .ref n1, .ref n2, .null, .int 0, .int 0, .int 0, .int 0, .int 0, .int 0, .long 0])), (n1, .inr (3, [.int 0, .int 0, .int 0, .int 0, .int 0])), (n2, .inr (0, [.ref n1]))] := hD
  refine lv_aload_n hx hb dX4_init_30 rfl (lv_at hl 0 rfl) ?_
  refine lv_bipush (v := 8) hx hb dX4_init_31 (by decide) ?_
  refine va_newa (atype := .int) (ty := .int) (a0 := (8, .inl (fun _ => 0))) (N' := 8) hx hb (hts _ qX4_init_14) rfl hK hP hD hS hA (fun _ => rfl) (by decide) (by decide) (by decide) (Nat.le_of_ble_eq_true rfl) (Nat.le_of_ble_eq_true rfl) dX4_init_33 (fun n3 cA H hK2 hP hD hS => ?_)
  have h9 := (one_int hK2).symm
  subst h9
  clear hK2
  have hP : va_P (dC, dI) vwCl [(pO, .inr (4, [.null, .null, .null, .ref n1, .ref n2, .null, .int 0, .int 0, .int 0, .int 0, .int 0, .int 0, .long 0])), (n1, .inr (3, [.int 0, .int 0, .int 0, .int 0, .int 0])), (n2, .inr (0, [.ref n1])), (n3, .inl (cI, 8, .inl (fun _ => 0)))] H := hP
  have hD : va_D A [(pO, .inr (4, [.null, .null, .null, .ref n1, .ref n2, .null, .int 0, .int 0, .int 0, .int 0, .int 0, .int 0, .long 0])), (n1, .inr (3, [.int 0, .int 0, .int 0, .int 0, .int 0])), (n2, .inr (0, [.ref n1])), (n3, .inl (cI, 8, .inl (fun _ => 0)))] := hD
  refine va_putF (D := (dC, dI)) (ci := 4) (v := .ref n3) (ty := (.array .int)) (C := RX4) (T := TX4) (N := 13) hx hb hts iX4_init_X4 tyX4 tyX4_ok nmX4 hown hK hP hD hS 0 rfl rfl 5 (by decide) (hts _ qX4_init_15) (fun _ h9 => h9) rfl hin rfl (by decide +kernel) rfl rfl (Nat.le_of_ble_eq_true rfl) dX4_init_35 (fun H locs hP hD hS => ?_)
  have hP : va_P (dC, dI) vwCl [(pO, .inr (4, [.null, .null, .null, .ref n1, .ref n2, .ref n3, .int 0, .int 0, .int 0, .int 0, .int 0, .int 0, .long 0])), (n1, .inr (3, [.int 0, .int 0, .int 0, .int 0, .int 0])), (n2, .inr (0, [.ref n1])), (n3, .inl (cI, 8, .inl (fun _ => 0)))] H := hP
  have hD : va_D A [(pO, .inr (4, [.null, .null, .null, .ref n1, .ref n2, .ref n3, .int 0, .int 0, .int 0, .int 0, .int 0, .int 0, .long 0])), (n1, .inr (3, [.int 0, .int 0, .int 0, .int 0, .int 0])), (n2, .inr (0, [.ref n1])), (n3, .inl (cI, 8, .inl (fun _ => 0)))] := hD
  refine lv_aload_n hx hb dX4_init_38 rfl (lv_at hl 0 rfl) ?_
  refine lv_iconst (v := (-1)) hx hb dX4_init_39 (by decide) ?_
  refine va_put (D := (dC, dI)) (ci := 4) (v := .int (-1)) (ty := .int) (C := RX4) (T := TX4) (N := 13) hx hb hts iX4_init_X4 tyX4 tyX4_ok nmX4 hown hK hP hD hS 0 rfl rfl 11 (by decide) (hts _ qX4_init_16) (fun _ h9 => h9) rfl (by decide +kernel) rfl rfl (Nat.le_of_ble_eq_true rfl) dX4_init_40 (fun H locs hP hD hS => ?_)
  have hP : va_P (dC, dI) vwCl [(pO, .inr (4, [.null, .null, .null, .ref n1, .ref n2, .ref n3, .int 0, .int 0, .int 0, .int 0, .int 0, .int (-1), .long 0])), (n1, .inr (3, [.int 0, .int 0, .int 0, .int 0, .int 0])), (n2, .inr (0, [.ref n1])), (n3, .inl (cI, 8, .inl (fun _ => 0)))] H := hP
  have hD : va_D A [(pO, .inr (4, [.null, .null, .null, .ref n1, .ref n2, .ref n3, .int 0, .int 0, .int 0, .int 0, .int 0, .int (-1), .long 0])), (n1, .inr (3, [.int 0, .int 0, .int 0, .int 0, .int 0])), (n2, .inr (0, [.ref n1])), (n3, .inl (cI, 8, .inl (fun _ => 0)))] := hD
  refine lv_aload_n hx hb dX4_init_43 rfl (lv_at hl 0 rfl) ?_
  refine lv_aload_n hx hb dX4_init_44 rfl (lv_at hl 1 rfl) ?_
  refine va_putF (D := (dC, dI)) (ci := 4) (v := .ref mS) (ty := (.object "DiskMachine$Store")) (C := RX4) (T := TX4) (N := 13) hx hb hts iX4_init_X4 tyX4 tyX4_ok nmX4 hown hK hP hD hS 0 rfl rfl 0 (by decide) (hts _ qX4_init_17) (fun _ h9 => h9) rfl hin rfl (by decide +kernel) rfl rfl (Nat.le_of_ble_eq_true rfl) dX4_init_45 (fun H locs hP hD hS => ?_)
  have hP : va_P (dC, dI) vwCl [(pO, .inr (4, [.ref mS, .null, .null, .ref n1, .ref n2, .ref n3, .int 0, .int 0, .int 0, .int 0, .int 0, .int (-1), .long 0])), (n1, .inr (3, [.int 0, .int 0, .int 0, .int 0, .int 0])), (n2, .inr (0, [.ref n1])), (n3, .inl (cI, 8, .inl (fun _ => 0)))] H := hP
  have hD : va_D A [(pO, .inr (4, [.ref mS, .null, .null, .ref n1, .ref n2, .ref n3, .int 0, .int 0, .int 0, .int 0, .int 0, .int (-1), .long 0])), (n1, .inr (3, [.int 0, .int 0, .int 0, .int 0, .int 0])), (n2, .inr (0, [.ref n1])), (n3, .inl (cI, 8, .inl (fun _ => 0)))] := hD
  refine lv_aload_n hx hb dX4_init_48 rfl (lv_at hl 0 rfl) ?_
  refine lv_aload_n hx hb dX4_init_49 rfl (lv_at hl 2 rfl) ?_
  refine va_putF (D := (dC, dI)) (ci := 4) (v := .ref cO) (ty := (.object "DiskMachine$Console")) (C := RX4) (T := TX4) (N := 13) hx hb hts iX4_init_X4 tyX4 tyX4_ok nmX4 hown hK hP hD hS 0 rfl rfl 1 (by decide) (hts _ qX4_init_18) (fun _ h9 => h9) rfl hin rfl (by decide +kernel) rfl rfl (Nat.le_of_ble_eq_true rfl) dX4_init_50 (fun H locs hP hD hS => ?_)
  have hP : va_P (dC, dI) vwCl [(pO, .inr (4, [.ref mS, .ref cO, .null, .ref n1, .ref n2, .ref n3, .int 0, .int 0, .int 0, .int 0, .int 0, .int (-1), .long 0])), (n1, .inr (3, [.int 0, .int 0, .int 0, .int 0, .int 0])), (n2, .inr (0, [.ref n1])), (n3, .inl (cI, 8, .inl (fun _ => 0)))] H := hP
  have hD : va_D A [(pO, .inr (4, [.ref mS, .ref cO, .null, .ref n1, .ref n2, .ref n3, .int 0, .int 0, .int 0, .int 0, .int 0, .int (-1), .long 0])), (n1, .inr (3, [.int 0, .int 0, .int 0, .int 0, .int 0])), (n2, .inr (0, [.ref n1])), (n3, .inl (cI, 8, .inl (fun _ => 0)))] := hD
  refine lv_aload_n hx hb dX4_init_53 rfl (lv_at hl 0 rfl) ?_
  refine lv_aload_n hx hb dX4_init_54 rfl (lv_at hl 3 rfl) ?_
  refine va_putF (D := (dC, dI)) (ci := 4) (v := .ref kO) (ty := (.object "DiskMachine$Controller")) (C := RX4) (T := TX4) (N := 13) hx hb hts iX4_init_X4 tyX4 tyX4_ok nmX4 hown hK hP hD hS 0 rfl rfl 2 (by decide) (hts _ qX4_init_19) (fun _ h9 => h9) rfl hin rfl (by decide +kernel) rfl rfl (Nat.le_of_ble_eq_true rfl) dX4_init_55 (fun H locs hP hD hS => ?_)
  have hP : va_P (dC, dI) vwCl [(pO, .inr (4, [.ref mS, .ref cO, .ref kO, .ref n1, .ref n2, .ref n3, .int 0, .int 0, .int 0, .int 0, .int 0, .int (-1), .long 0])), (n1, .inr (3, [.int 0, .int 0, .int 0, .int 0, .int 0])), (n2, .inr (0, [.ref n1])), (n3, .inl (cI, 8, .inl (fun _ => 0)))] H := hP
  have hD : va_D A [(pO, .inr (4, [.ref mS, .ref cO, .ref kO, .ref n1, .ref n2, .ref n3, .int 0, .int 0, .int 0, .int 0, .int 0, .int (-1), .long 0])), (n1, .inr (3, [.int 0, .int 0, .int 0, .int 0, .int 0])), (n2, .inr (0, [.ref n1])), (n3, .inl (cI, 8, .inl (fun _ => 0)))] := hD
  have hP9 := hP.sub (ws' := [(pO, .inr (4, [.ref mS, .ref cO, .ref kO, .ref n1, .ref n2, .ref n3, .int 0, .int 0, .int 0, .int 0, .int 0, .int (-1), .long 0])), (n1, .inr (3, [.int 0, .int 0, .int 0, .int 0, .int 0])), (n2, .inr (0, [.ref n1])), (n3, .inl (cI, 8, .inl (fun _ => 0)))]) [0, 1, 2, 3] rfl
  have hD9 := hD.sub (ws' := [(pO, .inr (4, [.ref mS, .ref cO, .ref kO, .ref n1, .ref n2, .ref n3, .int 0, .int 0, .int 0, .int 0, .int 0, .int (-1), .long 0])), (n1, .inr (3, [.int 0, .int 0, .int 0, .int 0, .int 0])), (n2, .inr (0, [.ref n1])), (n3, .inl (cI, 8, .inl (fun _ => 0)))]) [0, 1, 2, 3] (by decide) rfl
  refine W.widen (k := 3) (n := 14) (Nat.le_of_ble_eq_true rfl) (Nat.le_of_ble_eq_true rfl) ?_
  exact W.vret hx hb hr (fun t ht hW => ⟨⟨(n1, n2, n3), rfl, trivial, by rw [ht]; exact hP9, va_K.moved hW.alike hK, hD9⟩, hS.F ht⟩) hS.2.2 dX4_init_58

theorem qX6_init_0 : Cond.methodLink RX6 1 objectInit ∈ wsX6_init := by decide +kernel
theorem qX6_init_1 : Cond.instanceMethod objectInit ∈ wsX6_init := by decide +kernel
theorem qX6_init_2 : Cond.code objectInit ⟨#[0xb1]⟩ 1 none ∈ wsX6_init := by decide +kernel
theorem qX6_init_3 : Cond.classLink RX6 7 RX5 ∈ wsX6_init := by decide +kernel
theorem qX6_init_4 : Cond.instantiable RX5 1 ∈ wsX6_init := by decide +kernel
theorem qX6_init_5 : Cond.initialized RX5 ∈ wsX6_init := by decide +kernel
theorem qX6_init_6 : Cond.instanceMethod yX5_init ∈ wsX6_init := by decide +kernel
theorem qX6_init_7 : Cond.fieldLink RX6 10 "DiskMachine" "memory" "LDiskMachine$Store;" ∈ wsX6_init := by decide +kernel
theorem qX6_init_8 : Cond.fieldLink RX6 16 "DiskMachine" "disk" "LDiskMachine$Store;" ∈ wsX6_init := by decide +kernel
theorem qX6_init_9 : Cond.classLink RX6 19 RX1 ∈ wsX6_init := by decide +kernel
theorem qX6_init_10 : Cond.instantiable RX1 5 ∈ wsX6_init := by decide +kernel
theorem qX6_init_11 : Cond.initialized RX1 ∈ wsX6_init := by decide +kernel
theorem qX6_init_12 : Cond.instanceMethod yX1_init ∈ wsX6_init := by decide +kernel
theorem qX6_init_13 : Cond.fieldLink RX6 22 "DiskMachine" "console" "LDiskMachine$Console;" ∈ wsX6_init := by decide +kernel
theorem qX6_init_14 : Cond.classLink RX6 26 RX2 ∈ wsX6_init := by decide +kernel
theorem qX6_init_15 : Cond.instantiable RX2 11 ∈ wsX6_init := by decide +kernel
theorem qX6_init_16 : Cond.initialized RX2 ∈ wsX6_init := by decide +kernel
theorem qX6_init_17 : Cond.instanceMethod yX2_init ∈ wsX6_init := by decide +kernel
theorem qX6_init_18 : Cond.methodLink RX6 28 yX2_init ∈ wsX6_init := by decide +kernel
theorem qX6_init_19 : Cond.fieldLink RX6 31 "DiskMachine" "controller" "LDiskMachine$Controller;" ∈ wsX6_init := by decide +kernel
theorem qX6_init_20 : Cond.classLink RX6 35 RX4 ∈ wsX6_init := by decide +kernel
theorem qX6_init_21 : Cond.instantiable RX4 13 ∈ wsX6_init := by decide +kernel
theorem qX6_init_22 : Cond.initialized RX4 ∈ wsX6_init := by decide +kernel
theorem qX6_init_23 : Cond.instanceMethod yX4_init ∈ wsX6_init := by decide +kernel
theorem qX6_init_24 : Cond.methodLink RX6 37 yX4_init ∈ wsX6_init := by decide +kernel
theorem qX6_init_25 : Cond.fieldLink RX6 40 "DiskMachine" "processor" "LDiskMachine$Processor;" ∈ wsX6_init := by decide +kernel
theorem iX6_init_X5 : ∀ w ∈ wsX50, w ∈ wsX6_init := by decide +kernel
theorem iX6_init_X6 : ∀ w ∈ wsX60, w ∈ wsX6_init := by decide +kernel
theorem iX6_init_X1 : ∀ w ∈ wsX10, w ∈ wsX6_init := by decide +kernel
theorem iX6_init_X2 : ∀ w ∈ wsX20, w ∈ wsX6_init := by decide +kernel
theorem iX6_init_X4 : ∀ w ∈ wsX40, w ∈ wsX6_init := by decide +kernel
set_option maxHeartbeats 4000000 in
set_option maxRecDepth 100000 in
theorem k_X6_init (l : Launch) (dC : Nat → ClassId) (dI : Nat → Nat → Nat) (cI : ClassId) (xO : Nat) (sz : Nat) : Met l yX6_init wsX6_init ({ frames := 3, cells := 12, slots := 8557, locals := 56 }) (va_Pc [.ref xO] (wBN dC dI [(cI, .int)] sz [(xO, .inr (6, [.null, .null, .null, .null, .null]))])) (va_Qv (fun _ : Nat × Nat × Nat × Nat × Nat × Nat × Nat × Nat × Nat × Nat × Nat × Nat => True) (fun (q : Nat × Nat × Nat × Nat × Nat × Nat × Nat × Nat × Nat × Nat × Nat × Nat) => wE dC dI [(cI, .int)] (va_A [(xO, .inr (6, [.null, .null, .null, .null, .null]))] sz) [(xO, .inr (6, [.ref q.1, .ref q.2.2.1, .ref q.2.2.2.2.1, .ref q.2.2.2.2.2.2.2.1, .ref q.2.2.2.2.2.2.2.2.1])), (q.1, .inr (5, [.ref q.2.1])), (q.2.1, .inl (cI, 4096, .inl (fun _ => 0))), (q.2.2.1, .inr (5, [.ref q.2.2.2.1])), (q.2.2.2.1, .inl (cI, 4096, .inl (fun _ => 0))), (q.2.2.2.2.1, .inr (1, [.ref q.2.2.2.2.2.1, .int 0, .int 0, .ref q.2.2.2.2.2.2.1, .int 0])), (q.2.2.2.2.2.1, .inl (cI, 64, .inl (fun _ => 0))), (q.2.2.2.2.2.2.1, .inl (cI, 256, .inl (fun _ => 0))), (q.2.2.2.2.2.2.2.1, .inr (2, [.ref q.1, .ref q.2.2.1, .int 0, .int 0, .int 0, .int 0, .int 0, .int 0, .int 0, .int 0, .int 0])), (q.2.2.2.2.2.2.2.2.1, .inr (4, [.ref q.1, .ref q.2.2.2.2.1, .ref q.2.2.2.2.2.2.2.1, .ref q.2.2.2.2.2.2.2.2.2.1, .ref q.2.2.2.2.2.2.2.2.2.2.1, .ref q.2.2.2.2.2.2.2.2.2.2.2, .int 0, .int 0, .int 0, .int 0, .int 0, .int (-1), .long 0])), (q.2.2.2.2.2.2.2.2.2.1, .inr (3, [.int 0, .int 0, .int 0, .int 0, .int 0])), (q.2.2.2.2.2.2.2.2.2.2.1, .inr (0, [.ref q.2.2.2.2.2.2.2.2.2.1])), (q.2.2.2.2.2.2.2.2.2.2.2, .inl (cI, 8, .inl (fun _ => 0)))]) (va_A [(xO, .inr (6, [.null, .null, .null, .null, .null]))] sz)) 12 8557 (va_A [(xO, .inr (6, [.null, .null, .null, .null, .null]))] sz) := by
  refine Met.ofW (cc := cX6_init) (maxL := 1) (ret := none) (by decide) rfl ?_
  intro p e s m args below meth c s₁ B hml hv
  obtain ⟨rfl, hsz, hP, hK, hD0, hN⟩ := hv
  have hx := B.exec
  have hb := B.bytes
  have hr := B.returns
  have hts := atoms_spec (ws := wsX6_init) B.pre
  have hown : s.vm.findClass RX6 = some m.cls := findClass_of_methodNamed B.named
  have hlocks := B.notSynchronized
  have hin : meth.name = "<init>" := (name_of_methodNamed B.named B.method).1
  subst hsz
  have hD := hD0.self (sz := s.heap.size)
  generalize hAe : va_A [(xO, .inr (6, [.null, .null, .null, .null, .null]))] s.heap.size = A at hD ⊢
  have hA : ∀ q : Nat, s.heap.size ≤ q → A q := fun q h => by rw [← hAe]; exact Or.inr h
  have hS : va_S A s.heap s.heap [] := va_S.rf
  have hP : va_P (dC, dI) vwCl [(xO, .inr (6, [.null, .null, .null, .null, .null]))] s.heap := hP
  clear hAe hD0
  have hl := lv_entry ([.ref xO]) (n := 1) (Nat.le_of_ble_eq_true rfl)
  rw [lg_entry_eq]
  generalize (lg_sl ([.ref xO]) ++ List.replicate (1 - (lg_sl ([.ref xO])).length) Slot.unset).toArray = ls at hl ⊢
  have hl : lv_has ls 1 [(0, .ref xO)] := hl
  refine jn_H hP hS (fun H locs hP hS => ?_)
  refine lv_aload_n hx hb dX6_init_0 rfl (lv_at hl 0 rfl) ?_
  refine W.objInit hx hb hown (hts _ qX6_init_0) (hts _ qX6_init_1) (hts _ qX6_init_2) rfl (by rw [hml]; exact hl.1) rfl dX6_init_1 (Nat.le_of_ble_eq_true rfl) (Nat.le_of_ble_eq_true rfl) ?_
  refine W.eq (g2 := F0 m 4 ls []) rfl ?_
  refine lv_aload_n hx hb dX6_init_4 rfl (lv_at hl 0 rfl) ?_
  refine va_new (ci := 5) (fs := [.null]) (C := RX5) (T := TX5) (N := 1) hx hb hts iX6_init_X5 tyX5 tyX5_ok hown (hts _ qX6_init_3) (hts _ qX6_init_4) (hts _ qX6_init_5) hK hP hD hS hA rfl (fun j hj => by rcases (show j = 0 by omega) with rfl <;> rfl) (Nat.le_of_ble_eq_true rfl) (Nat.le_of_ble_eq_true rfl) dX6_init_5 (fun n1 H hP hD hS => ?_)
  have hP : va_P (dC, dI) vwCl [(xO, .inr (6, [.null, .null, .null, .null, .null])), (n1, .inr (5, [.null]))] H := hP
  have hD : va_D A [(xO, .inr (6, [.null, .null, .null, .null, .null])), (n1, .inr (5, [.null]))] := hD
  refine lv_dup hx hb dX6_init_8 rfl ?_
  have hPc := hP.sub (ws' := [(n1, .inr (5, [.null]))]) [1] rfl
  have hDc := hD.sub (ws' := [(n1, .inr (5, [.null]))]) [1] (by decide) rfl
  have hKc := hK.sub (tys' := [(cI, .int)]) [0] rfl
  have hFc := va_free (wc := [(n1, .inr (5, [.null]))]) hD hS hA [1] rfl
  refine va_callv (va_runIN (As := []) (rest := [.ref n1, .ref xO]) ⟨hx, hb, hml, hown, hts⟩ (k_X5_init l dC dI cI n1 H.size) ⟨va_cnB (host := "DiskMachine") 0 hts gX6_init_X5_init_n9 rfl rfl rfl (hN _ (by decide +kernel)) (hts _ qX6_init_5) (by decide +kernel) ⟨Nat.le_of_ble_eq_true rfl, Nat.le_of_ble_eq_true rfl⟩, rfl, hts _ qX6_init_6⟩ ⟨fun a U g mk q => by obtain ⟨q0, q1, qP, qK, qD⟩ := q; exact ⟨q0, q1, qP, va_K.moved (u := U) (U := U.calling g mk a) (Vm.Alike.refl U.vm) qK, qD⟩, fun U hU hW => ⟨rfl, by rw [hU], by rw [hU]; exact hPc, va_K.moved hW.alike hKc, hDc.weaken (fun _ _ _ _ => trivial)⟩⟩ rfl rfl hl.1 rfl (lv_room (Nat.le_of_ble_eq_true rfl)) dX6_init_9 ⟨Nat.le_of_ble_eq_true rfl, Nat.le_of_ble_eq_true rfl⟩) hS (fun q _ h => hFc q h) hFc (fun u9 t H1 locs ht hvm hw hB hz1 hk1 hS => ?_)
  obtain ⟨n2, rfl⟩ : ∃ z, z = u9 := ⟨_, rfl⟩
  obtain ⟨hP1, hK1, hD1⟩ := hB
  rw [ht] at hP1
  obtain ⟨hP, hD⟩ := va_join (wr := [(xO, .inr (6, [.null, .null, .null, .null, .null]))]) (w1 := [(n1, .inr (5, [.ref n2])), (n2, .inl (cI, 4096, .inl (fun _ => 0)))]) hP hD [1] [0] rfl rfl (by decide) (by decide) hk1 hFc hP1 hD1
  clear hPc hDc hKc hFc hz1 hk1 hP1 hK1 hD1 ht hvm
  have hP : va_P (dC, dI) vwCl [(xO, .inr (6, [.null, .null, .null, .null, .null])), (n1, .inr (5, [.ref n2])), (n2, .inl (cI, 4096, .inl (fun _ => 0)))] H1 := hP
  have hD : va_D A [(xO, .inr (6, [.null, .null, .null, .null, .null])), (n1, .inr (5, [.ref n2])), (n2, .inl (cI, 4096, .inl (fun _ => 0)))] := hD
  generalize H1 = H at hP hS ⊢
  refine va_putF (D := (dC, dI)) (ci := 6) (v := .ref n1) (ty := (.object "DiskMachine$Store")) (C := RX6) (T := TX6) (N := 5) hx hb hts iX6_init_X6 tyX6 tyX6_ok nmX6 hown hK hP hD hS 0 rfl rfl 0 (by decide) (hts _ qX6_init_7) (fun _ h9 => h9) rfl hin rfl (by decide +kernel) rfl rfl (Nat.le_of_ble_eq_true rfl) dX6_init_12 (fun H locs hP hD hS => ?_)
  have hP : va_P (dC, dI) vwCl [(xO, .inr (6, [.ref n1, .null, .null, .null, .null])), (n1, .inr (5, [.ref n2])), (n2, .inl (cI, 4096, .inl (fun _ => 0)))] H := hP
  have hD : va_D A [(xO, .inr (6, [.ref n1, .null, .null, .null, .null])), (n1, .inr (5, [.ref n2])), (n2, .inl (cI, 4096, .inl (fun _ => 0)))] := hD
  refine lv_aload_n hx hb dX6_init_15 rfl (lv_at hl 0 rfl) ?_
  refine va_new (ci := 5) (fs := [.null]) (C := RX5) (T := TX5) (N := 1) hx hb hts iX6_init_X5 tyX5 tyX5_ok hown (hts _ qX6_init_3) (hts _ qX6_init_4) (hts _ qX6_init_5) hK hP hD hS hA rfl (fun j hj => by rcases (show j = 0 by omega) with rfl <;> rfl) (Nat.le_of_ble_eq_true rfl) (Nat.le_of_ble_eq_true rfl) dX6_init_16 (fun n3 H hP hD hS => ?_)
  have hP : va_P (dC, dI) vwCl [(xO, .inr (6, [.ref n1, .null, .null, .null, .null])), (n1, .inr (5, [.ref n2])), (n2, .inl (cI, 4096, .inl (fun _ => 0))), (n3, .inr (5, [.null]))] H := hP
  have hD : va_D A [(xO, .inr (6, [.ref n1, .null, .null, .null, .null])), (n1, .inr (5, [.ref n2])), (n2, .inl (cI, 4096, .inl (fun _ => 0))), (n3, .inr (5, [.null]))] := hD
  refine lv_dup hx hb dX6_init_19 rfl ?_
  have hPc := hP.sub (ws' := [(n3, .inr (5, [.null]))]) [3] rfl
  have hDc := hD.sub (ws' := [(n3, .inr (5, [.null]))]) [3] (by decide) rfl
  have hKc := hK.sub (tys' := [(cI, .int)]) [0] rfl
  have hFc := va_free (wc := [(n3, .inr (5, [.null]))]) hD hS hA [3] rfl
  refine va_callv (va_runIN (As := []) (rest := [.ref n3, .ref xO]) ⟨hx, hb, hml, hown, hts⟩ (k_X5_init l dC dI cI n3 H.size) ⟨va_cnB (host := "DiskMachine") 0 hts gX6_init_X5_init_n9 rfl rfl rfl (hN _ (by decide +kernel)) (hts _ qX6_init_5) (by decide +kernel) ⟨Nat.le_of_ble_eq_true rfl, Nat.le_of_ble_eq_true rfl⟩, rfl, hts _ qX6_init_6⟩ ⟨fun a U g mk q => by obtain ⟨q0, q1, qP, qK, qD⟩ := q; exact ⟨q0, q1, qP, va_K.moved (u := U) (U := U.calling g mk a) (Vm.Alike.refl U.vm) qK, qD⟩, fun U hU hW => ⟨rfl, by rw [hU], by rw [hU]; exact hPc, va_K.moved hW.alike hKc, hDc.weaken (fun _ _ _ _ => trivial)⟩⟩ rfl rfl hl.1 rfl (lv_room (Nat.le_of_ble_eq_true rfl)) dX6_init_20 ⟨Nat.le_of_ble_eq_true rfl, Nat.le_of_ble_eq_true rfl⟩) hS (fun q _ h => hFc q h) hFc (fun u9 t H1 locs ht hvm hw hB hz1 hk1 hS => ?_)
  obtain ⟨n4, rfl⟩ : ∃ z, z = u9 := ⟨_, rfl⟩
  obtain ⟨hP1, hK1, hD1⟩ := hB
  rw [ht] at hP1
  obtain ⟨hP, hD⟩ := va_join (wr := [(xO, .inr (6, [.ref n1, .null, .null, .null, .null])), (n1, .inr (5, [.ref n2])), (n2, .inl (cI, 4096, .inl (fun _ => 0)))]) (w1 := [(n3, .inr (5, [.ref n4])), (n4, .inl (cI, 4096, .inl (fun _ => 0)))]) hP hD [3] [0, 1, 2] rfl rfl (by decide) (by decide) hk1 hFc hP1 hD1
  clear hPc hDc hKc hFc hz1 hk1 hP1 hK1 hD1 ht hvm
  have hP : va_P (dC, dI) vwCl [(xO, .inr (6, [.ref n1, .null, .null, .null, .null])), (n1, .inr (5, [.ref n2])), (n2, .inl (cI, 4096, .inl (fun _ => 0))), (n3, .inr (5, [.ref n4])), (n4, .inl (cI, 4096, .inl (fun _ => 0)))] H1 := hP
  have hD : va_D A [(xO, .inr (6, [.ref n1, .null, .null, .null, .null])), (n1, .inr (5, [.ref n2])), (n2, .inl (cI, 4096, .inl (fun _ => 0))), (n3, .inr (5, [.ref n4])), (n4, .inl (cI, 4096, .inl (fun _ => 0)))] := hD
  generalize H1 = H at hP hS ⊢
  refine va_putF (D := (dC, dI)) (ci := 6) (v := .ref n3) (ty := (.object "DiskMachine$Store")) (C := RX6) (T := TX6) (N := 5) hx hb hts iX6_init_X6 tyX6 tyX6_ok nmX6 hown hK hP hD hS 0 rfl rfl 1 (by decide) (hts _ qX6_init_8) (fun _ h9 => h9) rfl hin rfl (by decide +kernel) rfl rfl (Nat.le_of_ble_eq_true rfl) dX6_init_23 (fun H locs hP hD hS => ?_)
  have hP : va_P (dC, dI) vwCl [(xO, .inr (6, [.ref n1, .ref n3, .null, .null, .null])), (n1, .inr (5, [.ref n2])), (n2, .inl (cI, 4096, .inl (fun _ => 0))), (n3, .inr (5, [.ref n4])), (n4, .inl (cI, 4096, .inl (fun _ => 0)))] H := hP
  have hD : va_D A [(xO, .inr (6, [.ref n1, .ref n3, .null, .null, .null])), (n1, .inr (5, [.ref n2])), (n2, .inl (cI, 4096, .inl (fun _ => 0))), (n3, .inr (5, [.ref n4])), (n4, .inl (cI, 4096, .inl (fun _ => 0)))] := hD
  refine lv_aload_n hx hb dX6_init_26 rfl (lv_at hl 0 rfl) ?_
  refine va_new (ci := 1) (fs := [.null, .int 0, .int 0, .null, .int 0]) (C := RX1) (T := TX1) (N := 5) hx hb hts iX6_init_X1 tyX1 tyX1_ok hown (hts _ qX6_init_9) (hts _ qX6_init_10) (hts _ qX6_init_11) hK hP hD hS hA rfl (fun j hj => by rcases (show j = 0 ∨ j = 1 ∨ j = 2 ∨ j = 3 ∨ j = 4 by omega) with rfl | rfl | rfl | rfl | rfl <;> rfl) (Nat.le_of_ble_eq_true rfl) (Nat.le_of_ble_eq_true rfl) dX6_init_27 (fun n5 H hP hD hS => ?_)
  have hP : va_P (dC, dI) vwCl [(xO, .inr (6, [.ref n1, .ref n3, .null, .null, .null])), (n1, .inr (5, [.ref n2])), (n2, .inl (cI, 4096, .inl (fun _ => 0))), (n3, .inr (5, [.ref n4])), (n4, .inl (cI, 4096, .inl (fun _ => 0))), (n5, .inr (1, [.null, .int 0, .int 0, .null, .int 0]))] H := hP
  have hD : va_D A [(xO, .inr (6, [.ref n1, .ref n3, .null, .null, .null])), (n1, .inr (5, [.ref n2])), (n2, .inl (cI, 4096, .inl (fun _ => 0))), (n3, .inr (5, [.ref n4])), (n4, .inl (cI, 4096, .inl (fun _ => 0))), (n5, .inr (1, [.null, .int 0, .int 0, .null, .int 0]))] := hD
  refine lv_dup hx hb dX6_init_30 rfl ?_
  have hPc := hP.sub (ws' := [(n5, .inr (1, [.null, .int 0, .int 0, .null, .int 0]))]) [5] rfl
  have hDc := hD.sub (ws' := [(n5, .inr (1, [.null, .int 0, .int 0, .null, .int 0]))]) [5] (by decide) rfl
  have hKc := hK.sub (tys' := [(cI, .int)]) [0] rfl
  have hFc := va_free (wc := [(n5, .inr (1, [.null, .int 0, .int 0, .null, .int 0]))]) hD hS hA [5] rfl
  refine va_callv (va_runIN (As := []) (rest := [.ref n5, .ref xO]) ⟨hx, hb, hml, hown, hts⟩ (k_X1_init l dC dI cI n5 H.size) ⟨va_cnB (host := "DiskMachine") 0 hts gX6_init_X1_init_n21 rfl rfl rfl (hN _ (by decide +kernel)) (hts _ qX6_init_11) (by decide +kernel) ⟨Nat.le_of_ble_eq_true rfl, Nat.le_of_ble_eq_true rfl⟩, rfl, hts _ qX6_init_12⟩ ⟨fun a U g mk q => by obtain ⟨q0, q1, qP, qK, qD⟩ := q; exact ⟨q0, q1, qP, va_K.moved (u := U) (U := U.calling g mk a) (Vm.Alike.refl U.vm) qK, qD⟩, fun U hU hW => ⟨rfl, by rw [hU], by rw [hU]; exact hPc, va_K.moved hW.alike hKc, hDc.weaken (fun _ _ _ _ => trivial)⟩⟩ rfl rfl hl.1 rfl (lv_room (Nat.le_of_ble_eq_true rfl)) dX6_init_31 ⟨Nat.le_of_ble_eq_true rfl, Nat.le_of_ble_eq_true rfl⟩) hS (fun q _ h => hFc q h) hFc (fun u9 t H1 locs ht hvm hw hB hz1 hk1 hS => ?_)
  obtain ⟨n6, n7⟩ := u9
  obtain ⟨hP1, hK1, hD1⟩ := hB
  rw [ht] at hP1
  obtain ⟨hP, hD⟩ := va_join (wr := [(xO, .inr (6, [.ref n1, .ref n3, .null, .null, .null])), (n1, .inr (5, [.ref n2])), (n2, .inl (cI, 4096, .inl (fun _ => 0))), (n3, .inr (5, [.ref n4])), (n4, .inl (cI, 4096, .inl (fun _ => 0)))]) (w1 := [(n5, .inr (1, [.ref n6, .int 0, .int 0, .ref n7, .int 0])), (n6, .inl (cI, 64, .inl (fun _ => 0))), (n7, .inl (cI, 256, .inl (fun _ => 0)))]) hP hD [5] [0, 1, 2, 3, 4] rfl rfl (by decide) (by decide) hk1 hFc hP1 hD1
  clear hPc hDc hKc hFc hz1 hk1 hP1 hK1 hD1 ht hvm
  have hP : va_P (dC, dI) vwCl [(xO, .inr (6, [.ref n1, .ref n3, .null, .null, .null])), (n1, .inr (5, [.ref n2])), (n2, .inl (cI, 4096, .inl (fun _ => 0))), (n3, .inr (5, [.ref n4])), (n4, .inl (cI, 4096, .inl (fun _ => 0))), (n5, .inr (1, [.ref n6, .int 0, .int 0, .ref n7, .int 0])), (n6, .inl (cI, 64, .inl (fun _ => 0))), (n7, .inl (cI, 256, .inl (fun _ => 0)))] H1 := hP
  have hD : va_D A [(xO, .inr (6, [.ref n1, .ref n3, .null, .null, .null])), (n1, .inr (5, [.ref n2])), (n2, .inl (cI, 4096, .inl (fun _ => 0))), (n3, .inr (5, [.ref n4])), (n4, .inl (cI, 4096, .inl (fun _ => 0))), (n5, .inr (1, [.ref n6, .int 0, .int 0, .ref n7, .int 0])), (n6, .inl (cI, 64, .inl (fun _ => 0))), (n7, .inl (cI, 256, .inl (fun _ => 0)))] := hD
  generalize H1 = H at hP hS ⊢
  refine va_putF (D := (dC, dI)) (ci := 6) (v := .ref n5) (ty := (.object "DiskMachine$Console")) (C := RX6) (T := TX6) (N := 5) hx hb hts iX6_init_X6 tyX6 tyX6_ok nmX6 hown hK hP hD hS 0 rfl rfl 2 (by decide) (hts _ qX6_init_13) (fun _ h9 => h9) rfl hin rfl (by decide +kernel) rfl rfl (Nat.le_of_ble_eq_true rfl) dX6_init_34 (fun H locs hP hD hS => ?_)
  have hP : va_P (dC, dI) vwCl [(xO, .inr (6, [.ref n1, .ref n3, .ref n5, .null, .null])), (n1, .inr (5, [.ref n2])), (n2, .inl (cI, 4096, .inl (fun _ => 0))), (n3, .inr (5, [.ref n4])), (n4, .inl (cI, 4096, .inl (fun _ => 0))), (n5, .inr (1, [.ref n6, .int 0, .int 0, .ref n7, .int 0])), (n6, .inl (cI, 64, .inl (fun _ => 0))), (n7, .inl (cI, 256, .inl (fun _ => 0)))] H := hP
  have hD : va_D A [(xO, .inr (6, [.ref n1, .ref n3, .ref n5, .null, .null])), (n1, .inr (5, [.ref n2])), (n2, .inl (cI, 4096, .inl (fun _ => 0))), (n3, .inr (5, [.ref n4])), (n4, .inl (cI, 4096, .inl (fun _ => 0))), (n5, .inr (1, [.ref n6, .int 0, .int 0, .ref n7, .int 0])), (n6, .inl (cI, 64, .inl (fun _ => 0))), (n7, .inl (cI, 256, .inl (fun _ => 0)))] := hD
  refine lv_aload_n hx hb dX6_init_37 rfl (lv_at hl 0 rfl) ?_
  refine va_new (ci := 2) (fs := [.null, .null, .int 0, .int 0, .int 0, .int 0, .int 0, .int 0, .int 0, .int 0, .int 0]) (C := RX2) (T := TX2) (N := 11) hx hb hts iX6_init_X2 tyX2 tyX2_ok hown (hts _ qX6_init_14) (hts _ qX6_init_15) (hts _ qX6_init_16) hK hP hD hS hA rfl (fun j hj => by rcases (show j = 0 ∨ j = 1 ∨ j = 2 ∨ j = 3 ∨ j = 4 ∨ j = 5 ∨ j = 6 ∨ j = 7 ∨ j = 8 ∨ j = 9 ∨ j = 10 by omega) with rfl | rfl | rfl | rfl | rfl | rfl | rfl | rfl | rfl | rfl | rfl <;> rfl) (Nat.le_of_ble_eq_true rfl) (Nat.le_of_ble_eq_true rfl) dX6_init_38 (fun n8 H hP hD hS => ?_)
  have hP : va_P (dC, dI) vwCl [(xO, .inr (6, [.ref n1, .ref n3, .ref n5, .null, .null])), (n1, .inr (5, [.ref n2])), (n2, .inl (cI, 4096, .inl (fun _ => 0))), (n3, .inr (5, [.ref n4])), (n4, .inl (cI, 4096, .inl (fun _ => 0))), (n5, .inr (1, [.ref n6, .int 0, .int 0, .ref n7, .int 0])), (n6, .inl (cI, 64, .inl (fun _ => 0))), (n7, .inl (cI, 256, .inl (fun _ => 0))), (n8, .inr (2, [.null, .null, .int 0, .int 0, .int 0, .int 0, .int 0, .int 0, .int 0, .int 0, .int 0]))] H := hP
  have hD : va_D A [(xO, .inr (6, [.ref n1, .ref n3, .ref n5, .null, .null])), (n1, .inr (5, [.ref n2])), (n2, .inl (cI, 4096, .inl (fun _ => 0))), (n3, .inr (5, [.ref n4])), (n4, .inl (cI, 4096, .inl (fun _ => 0))), (n5, .inr (1, [.ref n6, .int 0, .int 0, .ref n7, .int 0])), (n6, .inl (cI, 64, .inl (fun _ => 0))), (n7, .inl (cI, 256, .inl (fun _ => 0))), (n8, .inr (2, [.null, .null, .int 0, .int 0, .int 0, .int 0, .int 0, .int 0, .int 0, .int 0, .int 0]))] := hD
  refine lv_dup hx hb dX6_init_41 rfl ?_
  refine lv_aload_n hx hb dX6_init_42 rfl (lv_at hl 0 rfl) ?_
  refine va_get (D := (dC, dI)) (ci := 6) (v := .ref n1) (C := RX6) (T := TX6) (N := 5) hx hb hts iX6_init_X6 hown hK hP 0 rfl rfl 0 (by decide) (hts _ qX6_init_7) (fun _ h9 => h9) rfl dX6_init_43 ?_
  refine lv_aload_n hx hb dX6_init_46 rfl (lv_at hl 0 rfl) ?_
  refine va_get (D := (dC, dI)) (ci := 6) (v := .ref n3) (C := RX6) (T := TX6) (N := 5) hx hb hts iX6_init_X6 hown hK hP 0 rfl rfl 1 (by decide) (hts _ qX6_init_8) (fun _ h9 => h9) rfl dX6_init_47 ?_
  have hPc := hP.sub (ws' := [(n8, .inr (2, [.null, .null, .int 0, .int 0, .int 0, .int 0, .int 0, .int 0, .int 0, .int 0, .int 0]))]) [8] rfl
  have hDc := hD.sub (ws' := [(n8, .inr (2, [.null, .null, .int 0, .int 0, .int 0, .int 0, .int 0, .int 0, .int 0, .int 0, .int 0]))]) [8] (by decide) rfl
  have hKc := hK.sub (tys' := [(cI, .int)]) [0] rfl
  have hFc := va_free (wc := [(n8, .inr (2, [.null, .null, .int 0, .int 0, .int 0, .int 0, .int 0, .int 0, .int 0, .int 0, .int 0]))]) hD hS hA [8] rfl
  refine va_callv (va_runI (As := [.ref n1, .ref n3]) (rest := [.ref n8, .ref xO]) ⟨hx, hb, hml, hown, hts⟩ (k_X2_init l dC dI cI n8 n1 n3 H.size) (cwI 2 hts gX6_init_X2_init rfl rfl rfl (hts _ qX6_init_16) (hts _ qX6_init_18) (hts _ qX6_init_17) rfl (by decide +kernel) ⟨Nat.le_of_ble_eq_true rfl, Nat.le_of_ble_eq_true rfl⟩) ⟨fun a U g mk q => by obtain ⟨q0, q1, qP, qK, qD⟩ := q; exact ⟨q0, q1, qP, va_K.moved (u := U) (U := U.calling g mk a) (Vm.Alike.refl U.vm) qK, qD⟩, fun U hU hW => ⟨rfl, by rw [hU], by rw [hU]; exact hPc, va_K.moved hW.alike hKc, hDc.weaken (fun _ _ _ _ => trivial)⟩⟩ rfl rfl hl.1 rfl (lv_room (Nat.le_of_ble_eq_true rfl)) dX6_init_50 ⟨Nat.le_of_ble_eq_true rfl, Nat.le_of_ble_eq_true rfl⟩) hS (fun q _ h => hFc q h) hFc (fun u9 t H1 locs ht hvm hw hB hz1 hk1 hS => ?_)
  obtain ⟨hP1, hK1, hD1⟩ := hB
  rw [ht] at hP1
  obtain ⟨hP, hD⟩ := va_join (wr := [(xO, .inr (6, [.ref n1, .ref n3, .ref n5, .null, .null])), (n1, .inr (5, [.ref n2])), (n2, .inl (cI, 4096, .inl (fun _ => 0))), (n3, .inr (5, [.ref n4])), (n4, .inl (cI, 4096, .inl (fun _ => 0))), (n5, .inr (1, [.ref n6, .int 0, .int 0, .ref n7, .int 0])), (n6, .inl (cI, 64, .inl (fun _ => 0))), (n7, .inl (cI, 256, .inl (fun _ => 0)))]) (w1 := [(n8, .inr (2, [.ref n1, .ref n3, .int 0, .int 0, .int 0, .int 0, .int 0, .int 0, .int 0, .int 0, .int 0]))]) hP hD [8] [0, 1, 2, 3, 4, 5, 6, 7] rfl rfl (by decide) (by decide) hk1 hFc hP1 hD1
  clear hPc hDc hKc hFc hz1 hk1 hP1 hK1 hD1 ht hvm
  have hP : va_P (dC, dI) vwCl [(xO, .inr (6, [.ref n1, .ref n3, .ref n5, .null, .null])), (n1, .inr (5, [.ref n2])), (n2, .inl (cI, 4096, .inl (fun _ => 0))), (n3, .inr (5, [.ref n4])), (n4, .inl (cI, 4096, .inl (fun _ => 0))), (n5, .inr (1, [.ref n6, .int 0, .int 0, .ref n7, .int 0])), (n6, .inl (cI, 64, .inl (fun _ => 0))), (n7, .inl (cI, 256, .inl (fun _ => 0))), (n8, .inr (2, [.ref n1, .ref n3, .int 0, .int 0, .int 0, .int 0, .int 0, .int 0, .int 0, .int 0, .int 0]))] H1 := hP
  have hD : va_D A [(xO, .inr (6, [.ref n1, .ref n3, .ref n5, .null, .null])), (n1, .inr (5, [.ref n2])), (n2, .inl (cI, 4096, .inl (fun _ => 0))), (n3, .inr (5, [.ref n4])), (n4, .inl (cI, 4096, .inl (fun _ => 0))), (n5, .inr (1, [.ref n6, .int 0, .int 0, .ref n7, .int 0])), (n6, .inl (cI, 64, .inl (fun _ => 0))), (n7, .inl (cI, 256, .inl (fun _ => 0))), (n8, .inr (2, [.ref n1, .ref n3, .int 0, .int 0, .int 0, .int 0, .int 0, .int 0, .int 0, .int 0, .int 0]))] := hD
  generalize H1 = H at hP hS ⊢
  refine va_putF (D := (dC, dI)) (ci := 6) (v := .ref n8) (ty := (.object "DiskMachine$Controller")) (C := RX6) (T := TX6) (N := 5) hx hb hts iX6_init_X6 tyX6 tyX6_ok nmX6 hown hK hP hD hS 0 rfl rfl 3 (by decide) (hts _ qX6_init_19) (fun _ h9 => h9) rfl hin rfl (by decide +kernel) rfl rfl (Nat.le_of_ble_eq_true rfl) dX6_init_53 (fun H locs hP hD hS => ?_)
  have hP : va_P (dC, dI) vwCl [(xO, .inr (6, [.ref n1, .ref n3, .ref n5, .ref n8, .null])), (n1, .inr (5, [.ref n2])), (n2, .inl (cI, 4096, .inl (fun _ => 0))), (n3, .inr (5, [.ref n4])), (n4, .inl (cI, 4096, .inl (fun _ => 0))), (n5, .inr (1, [.ref n6, .int 0, .int 0, .ref n7, .int 0])), (n6, .inl (cI, 64, .inl (fun _ => 0))), (n7, .inl (cI, 256, .inl (fun _ => 0))), (n8, .inr (2, [.ref n1, .ref n3, .int 0, .int 0, .int 0, .int 0, .int 0, .int 0, .int 0, .int 0, .int 0]))] H := hP
  have hD : va_D A [(xO, .inr (6, [.ref n1, .ref n3, .ref n5, .ref n8, .null])), (n1, .inr (5, [.ref n2])), (n2, .inl (cI, 4096, .inl (fun _ => 0))), (n3, .inr (5, [.ref n4])), (n4, .inl (cI, 4096, .inl (fun _ => 0))), (n5, .inr (1, [.ref n6, .int 0, .int 0, .ref n7, .int 0])), (n6, .inl (cI, 64, .inl (fun _ => 0))), (n7, .inl (cI, 256, .inl (fun _ => 0))), (n8, .inr (2, [.ref n1, .ref n3, .int 0, .int 0, .int 0, .int 0, .int 0, .int 0, .int 0, .int 0, .int 0]))] := hD
  refine lv_aload_n hx hb dX6_init_56 rfl (lv_at hl 0 rfl) ?_
  refine va_new (ci := 4) (fs := [.null, .null, .null, .null, .null, .null, .int 0, .int 0, .int 0, .int 0, .int 0, .int 0, .long 0]) (C := RX4) (T := TX4) (N := 13) hx hb hts iX6_init_X4 tyX4 tyX4_ok hown (hts _ qX6_init_20) (hts _ qX6_init_21) (hts _ qX6_init_22) hK hP hD hS hA rfl (fun j hj => by rcases (show j = 0 ∨ j = 1 ∨ j = 2 ∨ j = 3 ∨ j = 4 ∨ j = 5 ∨ j = 6 ∨ j = 7 ∨ j = 8 ∨ j = 9 ∨ j = 10 ∨ j = 11 ∨ j = 12 by omega) with rfl | rfl | rfl | rfl | rfl | rfl | rfl | rfl | rfl | rfl | rfl | rfl | rfl <;> rfl) (Nat.le_of_ble_eq_true rfl) (Nat.le_of_ble_eq_true rfl) dX6_init_57 (fun n9 H hP hD hS => ?_)
  have hP : va_P (dC, dI) vwCl [(xO, .inr (6, [.ref n1, .ref n3, .ref n5, .ref n8, .null])), (n1, .inr (5, [.ref n2])), (n2, .inl (cI, 4096, .inl (fun _ => 0))), (n3, .inr (5, [.ref n4])), (n4, .inl (cI, 4096, .inl (fun _ => 0))), (n5, .inr (1, [.ref n6, .int 0, .int 0, .ref n7, .int 0])), (n6, .inl (cI, 64, .inl (fun _ => 0))), (n7, .inl (cI, 256, .inl (fun _ => 0))), (n8, .inr (2, [.ref n1, .ref n3, .int 0, .int 0, .int 0, .int 0, .int 0, .int 0, .int 0, .int 0, .int 0])), (n9, .inr (4, [.null, .null, .null, .null, .null, .null, .int 0, .int 0, .int 0, .int 0, .int 0, .int 0, .long 0]))] H := hP
  have hD : va_D A [(xO, .inr (6, [.ref n1, .ref n3, .ref n5, .ref n8, .null])), (n1, .inr (5, [.ref n2])), (n2, .inl (cI, 4096, .inl (fun _ => 0))), (n3, .inr (5, [.ref n4])), (n4, .inl (cI, 4096, .inl (fun _ => 0))), (n5, .inr (1, [.ref n6, .int 0, .int 0, .ref n7, .int 0])), (n6, .inl (cI, 64, .inl (fun _ => 0))), (n7, .inl (cI, 256, .inl (fun _ => 0))), (n8, .inr (2, [.ref n1, .ref n3, .int 0, .int 0, .int 0, .int 0, .int 0, .int 0, .int 0, .int 0, .int 0])), (n9, .inr (4, [.null, .null, .null, .null, .null, .null, .int 0, .int 0, .int 0, .int 0, .int 0, .int 0, .long 0]))] := hD
  refine lv_dup hx hb dX6_init_60 rfl ?_
  refine lv_aload_n hx hb dX6_init_61 rfl (lv_at hl 0 rfl) ?_
  refine va_get (D := (dC, dI)) (ci := 6) (v := .ref n1) (C := RX6) (T := TX6) (N := 5) hx hb hts iX6_init_X6 hown hK hP 0 rfl rfl 0 (by decide) (hts _ qX6_init_7) (fun _ h9 => h9) rfl dX6_init_62 ?_
  refine lv_aload_n hx hb dX6_init_65 rfl (lv_at hl 0 rfl) ?_
  refine va_get (D := (dC, dI)) (ci := 6) (v := .ref n5) (C := RX6) (T := TX6) (N := 5) hx hb hts iX6_init_X6 hown hK hP 0 rfl rfl 2 (by decide) (hts _ qX6_init_13) (fun _ h9 => h9) rfl dX6_init_66 ?_
  refine lv_aload_n hx hb dX6_init_69 rfl (lv_at hl 0 rfl) ?_
  refine va_get (D := (dC, dI)) (ci := 6) (v := .ref n8) (C := RX6) (T := TX6) (N := 5) hx hb hts iX6_init_X6 hown hK hP 0 rfl rfl 3 (by decide) (hts _ qX6_init_19) (fun _ h9 => h9) rfl dX6_init_70 ?_
  have hPc := hP.sub (ws' := [(n9, .inr (4, [.null, .null, .null, .null, .null, .null, .int 0, .int 0, .int 0, .int 0, .int 0, .int 0, .long 0]))]) [9] rfl
  have hDc := hD.sub (ws' := [(n9, .inr (4, [.null, .null, .null, .null, .null, .null, .int 0, .int 0, .int 0, .int 0, .int 0, .int 0, .long 0]))]) [9] (by decide) rfl
  have hKc := hK.sub (tys' := [(cI, .int)]) [0] rfl
  have hFc := va_free (wc := [(n9, .inr (4, [.null, .null, .null, .null, .null, .null, .int 0, .int 0, .int 0, .int 0, .int 0, .int 0, .long 0]))]) hD hS hA [9] rfl
  refine va_callv (va_runI (As := [.ref n1, .ref n5, .ref n8]) (rest := [.ref n9, .ref xO]) ⟨hx, hb, hml, hown, hts⟩ (k_X4_init l dC dI cI n9 n1 n5 n8 H.size) (cwI 3 hts gX6_init_X4_init rfl rfl rfl (hts _ qX6_init_22) (hts _ qX6_init_24) (hts _ qX6_init_23) rfl (by decide +kernel) ⟨Nat.le_of_ble_eq_true rfl, Nat.le_of_ble_eq_true rfl⟩) ⟨fun a U g mk q => by obtain ⟨q0, q1, qP, qK, qD, qN⟩ := q; exact ⟨q0, q1, qP, va_K.moved (u := U) (U := U.calling g mk a) (Vm.Alike.refl U.vm) qK, qD, qN.calling g mk a⟩, fun U hU hW => ⟨rfl, by rw [hU], by rw [hU]; exact hPc, va_K.moved hW.alike hKc, hDc.weaken (fun _ _ _ _ => trivial), hN.to hW⟩⟩ rfl rfl hl.1 rfl (lv_room (Nat.le_of_ble_eq_true rfl)) dX6_init_73 ⟨Nat.le_of_ble_eq_true rfl, Nat.le_of_ble_eq_true rfl⟩) hS (fun q _ h => hFc q h) hFc (fun u9 t H1 locs ht hvm hw hB hz1 hk1 hS => ?_)
  obtain ⟨n10, n11, n12⟩ := u9
  obtain ⟨hP1, hK1, hD1⟩ := hB
  rw [ht] at hP1
  obtain ⟨hP, hD⟩ := va_join (wr := [(xO, .inr (6, [.ref n1, .ref n3, .ref n5, .ref n8, .null])), (n1, .inr (5, [.ref n2])), (n2, .inl (cI, 4096, .inl (fun _ => 0))), (n3, .inr (5, [.ref n4])), (n4, .inl (cI, 4096, .inl (fun _ => 0))), (n5, .inr (1, [.ref n6, .int 0, .int 0, .ref n7, .int 0])), (n6, .inl (cI, 64, .inl (fun _ => 0))), (n7, .inl (cI, 256, .inl (fun _ => 0))), (n8, .inr (2, [.ref n1, .ref n3, .int 0, .int 0, .int 0, .int 0, .int 0, .int 0, .int 0, .int 0, .int 0]))]) (w1 := [(n9, .inr (4, [.ref n1, .ref n5, .ref n8, .ref n10, .ref n11, .ref n12, .int 0, .int 0, .int 0, .int 0, .int 0, .int (-1), .long 0])), (n10, .inr (3, [.int 0, .int 0, .int 0, .int 0, .int 0])), (n11, .inr (0, [.ref n10])), (n12, .inl (cI, 8, .inl (fun _ => 0)))]) hP hD [9] [0, 1, 2, 3, 4, 5, 6, 7, 8] rfl rfl (by decide) (by decide) hk1 hFc hP1 hD1
  clear hPc hDc hKc hFc hz1 hk1 hP1 hK1 hD1 ht hvm
  have hP : va_P (dC, dI) vwCl [(xO, .inr (6, [.ref n1, .ref n3, .ref n5, .ref n8, .null])), (n1, .inr (5, [.ref n2])), (n2, .inl (cI, 4096, .inl (fun _ => 0))), (n3, .inr (5, [.ref n4])), (n4, .inl (cI, 4096, .inl (fun _ => 0))), (n5, .inr (1, [.ref n6, .int 0, .int 0, .ref n7, .int 0])), (n6, .inl (cI, 64, .inl (fun _ => 0))), (n7, .inl (cI, 256, .inl (fun _ => 0))), (n8, .inr (2, [.ref n1, .ref n3, .int 0, .int 0, .int 0, .int 0, .int 0, .int 0, .int 0, .int 0, .int 0])), (n9, .inr (4, [.ref n1, .ref n5, .ref n8, .ref n10, .ref n11, .ref n12, .int 0, .int 0, .int 0, .int 0, .int 0, .int (-1), .long 0])), (n10, .inr (3, [.int 0, .int 0, .int 0, .int 0, .int 0])), (n11, .inr (0, [.ref n10])), (n12, .inl (cI, 8, .inl (fun _ => 0)))] H1 := hP
  have hD : va_D A [(xO, .inr (6, [.ref n1, .ref n3, .ref n5, .ref n8, .null])), (n1, .inr (5, [.ref n2])), (n2, .inl (cI, 4096, .inl (fun _ => 0))), (n3, .inr (5, [.ref n4])), (n4, .inl (cI, 4096, .inl (fun _ => 0))), (n5, .inr (1, [.ref n6, .int 0, .int 0, .ref n7, .int 0])), (n6, .inl (cI, 64, .inl (fun _ => 0))), (n7, .inl (cI, 256, .inl (fun _ => 0))), (n8, .inr (2, [.ref n1, .ref n3, .int 0, .int 0, .int 0, .int 0, .int 0, .int 0, .int 0, .int 0, .int 0])), (n9, .inr (4, [.ref n1, .ref n5, .ref n8, .ref n10, .ref n11, .ref n12, .int 0, .int 0, .int 0, .int 0, .int 0, .int (-1), .long 0])), (n10, .inr (3, [.int 0, .int 0, .int 0, .int 0, .int 0])), (n11, .inr (0, [.ref n10])), (n12, .inl (cI, 8, .inl (fun _ => 0)))] := hD
  generalize H1 = H at hP hS ⊢
  refine va_putF (D := (dC, dI)) (ci := 6) (v := .ref n9) (ty := (.object "DiskMachine$Processor")) (C := RX6) (T := TX6) (N := 5) hx hb hts iX6_init_X6 tyX6 tyX6_ok nmX6 hown hK hP hD hS 0 rfl rfl 4 (by decide) (hts _ qX6_init_25) (fun _ h9 => h9) rfl hin rfl (by decide +kernel) rfl rfl (Nat.le_of_ble_eq_true rfl) dX6_init_76 (fun H locs hP hD hS => ?_)
  have hP : va_P (dC, dI) vwCl [(xO, .inr (6, [.ref n1, .ref n3, .ref n5, .ref n8, .ref n9])), (n1, .inr (5, [.ref n2])), (n2, .inl (cI, 4096, .inl (fun _ => 0))), (n3, .inr (5, [.ref n4])), (n4, .inl (cI, 4096, .inl (fun _ => 0))), (n5, .inr (1, [.ref n6, .int 0, .int 0, .ref n7, .int 0])), (n6, .inl (cI, 64, .inl (fun _ => 0))), (n7, .inl (cI, 256, .inl (fun _ => 0))), (n8, .inr (2, [.ref n1, .ref n3, .int 0, .int 0, .int 0, .int 0, .int 0, .int 0, .int 0, .int 0, .int 0])), (n9, .inr (4, [.ref n1, .ref n5, .ref n8, .ref n10, .ref n11, .ref n12, .int 0, .int 0, .int 0, .int 0, .int 0, .int (-1), .long 0])), (n10, .inr (3, [.int 0, .int 0, .int 0, .int 0, .int 0])), (n11, .inr (0, [.ref n10])), (n12, .inl (cI, 8, .inl (fun _ => 0)))] H := hP
  have hD : va_D A [(xO, .inr (6, [.ref n1, .ref n3, .ref n5, .ref n8, .ref n9])), (n1, .inr (5, [.ref n2])), (n2, .inl (cI, 4096, .inl (fun _ => 0))), (n3, .inr (5, [.ref n4])), (n4, .inl (cI, 4096, .inl (fun _ => 0))), (n5, .inr (1, [.ref n6, .int 0, .int 0, .ref n7, .int 0])), (n6, .inl (cI, 64, .inl (fun _ => 0))), (n7, .inl (cI, 256, .inl (fun _ => 0))), (n8, .inr (2, [.ref n1, .ref n3, .int 0, .int 0, .int 0, .int 0, .int 0, .int 0, .int 0, .int 0, .int 0])), (n9, .inr (4, [.ref n1, .ref n5, .ref n8, .ref n10, .ref n11, .ref n12, .int 0, .int 0, .int 0, .int 0, .int 0, .int (-1), .long 0])), (n10, .inr (3, [.int 0, .int 0, .int 0, .int 0, .int 0])), (n11, .inr (0, [.ref n10])), (n12, .inl (cI, 8, .inl (fun _ => 0)))] := hD
  have hP9 := hP.sub (ws' := [(xO, .inr (6, [.ref n1, .ref n3, .ref n5, .ref n8, .ref n9])), (n1, .inr (5, [.ref n2])), (n2, .inl (cI, 4096, .inl (fun _ => 0))), (n3, .inr (5, [.ref n4])), (n4, .inl (cI, 4096, .inl (fun _ => 0))), (n5, .inr (1, [.ref n6, .int 0, .int 0, .ref n7, .int 0])), (n6, .inl (cI, 64, .inl (fun _ => 0))), (n7, .inl (cI, 256, .inl (fun _ => 0))), (n8, .inr (2, [.ref n1, .ref n3, .int 0, .int 0, .int 0, .int 0, .int 0, .int 0, .int 0, .int 0, .int 0])), (n9, .inr (4, [.ref n1, .ref n5, .ref n8, .ref n10, .ref n11, .ref n12, .int 0, .int 0, .int 0, .int 0, .int 0, .int (-1), .long 0])), (n10, .inr (3, [.int 0, .int 0, .int 0, .int 0, .int 0])), (n11, .inr (0, [.ref n10])), (n12, .inl (cI, 8, .inl (fun _ => 0)))]) [0, 1, 2, 3, 4, 5, 6, 7, 8, 9, 10, 11, 12] rfl
  have hD9 := hD.sub (ws' := [(xO, .inr (6, [.ref n1, .ref n3, .ref n5, .ref n8, .ref n9])), (n1, .inr (5, [.ref n2])), (n2, .inl (cI, 4096, .inl (fun _ => 0))), (n3, .inr (5, [.ref n4])), (n4, .inl (cI, 4096, .inl (fun _ => 0))), (n5, .inr (1, [.ref n6, .int 0, .int 0, .ref n7, .int 0])), (n6, .inl (cI, 64, .inl (fun _ => 0))), (n7, .inl (cI, 256, .inl (fun _ => 0))), (n8, .inr (2, [.ref n1, .ref n3, .int 0, .int 0, .int 0, .int 0, .int 0, .int 0, .int 0, .int 0, .int 0])), (n9, .inr (4, [.ref n1, .ref n5, .ref n8, .ref n10, .ref n11, .ref n12, .int 0, .int 0, .int 0, .int 0, .int 0, .int (-1), .long 0])), (n10, .inr (3, [.int 0, .int 0, .int 0, .int 0, .int 0])), (n11, .inr (0, [.ref n10])), (n12, .inl (cI, 8, .inl (fun _ => 0)))]) [0, 1, 2, 3, 4, 5, 6, 7, 8, 9, 10, 11, 12] (by decide) rfl
  refine W.widen (k := 12) (n := 8557) (Nat.le_of_ble_eq_true rfl) (Nat.le_of_ble_eq_true rfl) ?_
  exact W.vret hx hb hr (fun t ht hW => ⟨⟨(n1, n2, n3, n4, n5, n6, n7, n8, n9, n10, n11, n12), rfl, trivial, by rw [ht]; exact hP9, va_K.moved hW.alike hK, hD9⟩, hS.F ht⟩) hS.2.2 dX6_init_79

theorem qX7_init_0 : Cond.methodLink RX7 1 objectInit ∈ wsX7_init := by decide +kernel
theorem qX7_init_1 : Cond.instanceMethod objectInit ∈ wsX7_init := by decide +kernel
theorem qX7_init_2 : Cond.code objectInit ⟨#[0xb1]⟩ 1 none ∈ wsX7_init := by decide +kernel
theorem qX7_init_3 : Cond.arrayClass .int ∈ wsX7_init := by decide +kernel
theorem qX7_init_4 : Cond.fieldLink RX7 7 "DiskMachineModel" "memory" "[I" ∈ wsX7_init := by decide +kernel
theorem qX7_init_5 : Cond.fieldLink RX7 13 "DiskMachineModel" "disk" "[I" ∈ wsX7_init := by decide +kernel
theorem qX7_init_6 : Cond.fieldLink RX7 16 "DiskMachineModel" "\x72" "[I" ∈ wsX7_init := by decide +kernel
theorem qX7_init_7 : Cond.fieldLink RX7 19 "DiskMachineModel" "wanted" "I" ∈ wsX7_init := by decide +kernel
theorem qX7_init_8 : Cond.fieldLink RX7 23 "DiskMachineModel" "input" "[I" ∈ wsX7_init := by decide +kernel
theorem qX7_init_9 : Cond.fieldLink RX7 26 "DiskMachineModel" "output" "[I" ∈ wsX7_init := by decide +kernel
theorem iX7_init_X7 : ∀ w ∈ wsX70, w ∈ wsX7_init := by decide +kernel
set_option maxHeartbeats 4000000 in
set_option maxRecDepth 100000 in
theorem k_X7_init (l : Launch) (dC : Nat → ClassId) (dI : Nat → Nat → Nat) (cI : ClassId) (mO : Nat) (sz : Nat) : Met l yX7_init wsX7_init ({ frames := 1, cells := 5, slots := 8520, locals := 12 }) (va_Pc [.ref mO] (wB dC dI [(cI, .int)] sz [(mO, .inr (7, [.int 0, .null, .null, .null, .int 0, .int 0, .int 0, .int 0, .int 0, .int 0, .int 0, .int 0, .int 0, .int 0, .int 0, .long 0, .int 0, .null, .int 0, .null, .int 0, .int 0, .int 0, .int 0, .int 0, .int 0, .int 0, .int 0, .int 0, .int 0]))])) (va_Qv (fun _ : Nat × Nat × Nat × Nat × Nat => True) (fun (q : Nat × Nat × Nat × Nat × Nat) => wE dC dI [(cI, .int)] (va_A [(mO, .inr (7, [.int 0, .null, .null, .null, .int 0, .int 0, .int 0, .int 0, .int 0, .int 0, .int 0, .int 0, .int 0, .int 0, .int 0, .long 0, .int 0, .null, .int 0, .null, .int 0, .int 0, .int 0, .int 0, .int 0, .int 0, .int 0, .int 0, .int 0, .int 0]))] sz) [(mO, .inr (7, [.int 0, .ref q.1, .ref q.2.1, .ref q.2.2.1, .int 0, .int 0, .int 0, .int 0, .int 0, .int 0, .int 0, .int 0, .int 0, .int 0, .int (-1), .long 0, .int 0, .ref q.2.2.2.1, .int 0, .ref q.2.2.2.2, .int 0, .int 0, .int 0, .int 0, .int 0, .int 0, .int 0, .int 0, .int 0, .int 0])), (q.1, .inl (cI, 4096, .inl (fun _ => 0))), (q.2.1, .inl (cI, 4096, .inl (fun _ => 0))), (q.2.2.1, .inl (cI, 8, .inl (fun _ => 0))), (q.2.2.2.1, .inl (cI, 64, .inl (fun _ => 0))), (q.2.2.2.2, .inl (cI, 256, .inl (fun _ => 0)))]) (va_A [(mO, .inr (7, [.int 0, .null, .null, .null, .int 0, .int 0, .int 0, .int 0, .int 0, .int 0, .int 0, .int 0, .int 0, .int 0, .int 0, .long 0, .int 0, .null, .int 0, .null, .int 0, .int 0, .int 0, .int 0, .int 0, .int 0, .int 0, .int 0, .int 0, .int 0]))] sz)) 5 8520 (va_A [(mO, .inr (7, [.int 0, .null, .null, .null, .int 0, .int 0, .int 0, .int 0, .int 0, .int 0, .int 0, .int 0, .int 0, .int 0, .int 0, .long 0, .int 0, .null, .int 0, .null, .int 0, .int 0, .int 0, .int 0, .int 0, .int 0, .int 0, .int 0, .int 0, .int 0]))] sz) := by
  refine Met.ofW (cc := cX7_init) (maxL := 1) (ret := none) (by decide) rfl ?_
  intro p e s m args below meth c s₁ B hml hv
  obtain ⟨rfl, hsz, hP, hK, hD0⟩ := hv
  have hx := B.exec
  have hb := B.bytes
  have hr := B.returns
  have hts := atoms_spec (ws := wsX7_init) B.pre
  have hown : s.vm.findClass RX7 = some m.cls := findClass_of_methodNamed B.named
  have hlocks := B.notSynchronized
  have hin : meth.name = "<init>" := (name_of_methodNamed B.named B.method).1
  subst hsz
  have hD := hD0.self (sz := s.heap.size)
  generalize hAe : va_A [(mO, .inr (7, [.int 0, .null, .null, .null, .int 0, .int 0, .int 0, .int 0, .int 0, .int 0, .int 0, .int 0, .int 0, .int 0, .int 0, .long 0, .int 0, .null, .int 0, .null, .int 0, .int 0, .int 0, .int 0, .int 0, .int 0, .int 0, .int 0, .int 0, .int 0]))] s.heap.size = A at hD ⊢
  have hA : ∀ q : Nat, s.heap.size ≤ q → A q := fun q h => by rw [← hAe]; exact Or.inr h
  have hS : va_S A s.heap s.heap [] := va_S.rf
  have hP : va_P (dC, dI) vwCl [(mO, .inr (7, [.int 0, .null, .null, .null, .int 0, .int 0, .int 0, .int 0, .int 0, .int 0, .int 0, .int 0, .int 0, .int 0, .int 0, .long 0, .int 0, .null, .int 0, .null, .int 0, .int 0, .int 0, .int 0, .int 0, .int 0, .int 0, .int 0, .int 0, .int 0]))] s.heap := hP
  clear hAe hD0
  have hl := lv_entry ([.ref mO]) (n := 1) (Nat.le_of_ble_eq_true rfl)
  rw [lg_entry_eq]
  generalize (lg_sl ([.ref mO]) ++ List.replicate (1 - (lg_sl ([.ref mO])).length) Slot.unset).toArray = ls at hl ⊢
  have hl : lv_has ls 1 [(0, .ref mO)] := hl
  refine jn_H hP hS (fun H locs hP hS => ?_)
  refine lv_aload_n hx hb dX7_init_0 rfl (lv_at hl 0 rfl) ?_
  refine W.objInit hx hb hown (hts _ qX7_init_0) (hts _ qX7_init_1) (hts _ qX7_init_2) rfl (by rw [hml]; exact hl.1) rfl dX7_init_1 (Nat.le_of_ble_eq_true rfl) (Nat.le_of_ble_eq_true rfl) ?_
  refine W.eq (g2 := F0 m 4 ls []) rfl ?_
  refine lv_aload_n hx hb dX7_init_4 rfl (lv_at hl 0 rfl) ?_
  refine lv_sipush (v := 4096) hx hb dX7_init_5 (by decide) ?_
  refine va_newa (atype := .int) (ty := .int) (a0 := (4096, .inl (fun _ => 0))) (N' := 4096) hx hb (hts _ qX7_init_3) rfl hK hP hD hS hA (fun _ => rfl) (by decide) (by decide) (by decide) (Nat.le_of_ble_eq_true rfl) (Nat.le_of_ble_eq_true rfl) dX7_init_8 (fun n1 cA H hK2 hP hD hS => ?_)
  have h9 := (one_int hK2).symm
  subst h9
  clear hK2
  have hP : va_P (dC, dI) vwCl [(mO, .inr (7, [.int 0, .null, .null, .null, .int 0, .int 0, .int 0, .int 0, .int 0, .int 0, .int 0, .int 0, .int 0, .int 0, .int 0, .long 0, .int 0, .null, .int 0, .null, .int 0, .int 0, .int 0, .int 0, .int 0, .int 0, .int 0, .int 0, .int 0, .int 0])), (n1, .inl (cI, 4096, .inl (fun _ => 0)))] H := hP
  have hD : va_D A [(mO, .inr (7, [.int 0, .null, .null, .null, .int 0, .int 0, .int 0, .int 0, .int 0, .int 0, .int 0, .int 0, .int 0, .int 0, .int 0, .long 0, .int 0, .null, .int 0, .null, .int 0, .int 0, .int 0, .int 0, .int 0, .int 0, .int 0, .int 0, .int 0, .int 0])), (n1, .inl (cI, 4096, .inl (fun _ => 0)))] := hD
  refine va_putF (D := (dC, dI)) (ci := 7) (v := .ref n1) (ty := (.array .int)) (C := RX7) (T := TX7) (N := 30) hx hb hts iX7_init_X7 tyX7 tyX7_ok nmX7 hown hK hP hD hS 0 rfl rfl 1 (by decide) (hts _ qX7_init_4) (fun _ h9 => h9) rfl hin rfl (by decide +kernel) rfl rfl (Nat.le_of_ble_eq_true rfl) dX7_init_10 (fun H locs hP hD hS => ?_)
  have hP : va_P (dC, dI) vwCl [(mO, .inr (7, [.int 0, .ref n1, .null, .null, .int 0, .int 0, .int 0, .int 0, .int 0, .int 0, .int 0, .int 0, .int 0, .int 0, .int 0, .long 0, .int 0, .null, .int 0, .null, .int 0, .int 0, .int 0, .int 0, .int 0, .int 0, .int 0, .int 0, .int 0, .int 0])), (n1, .inl (cI, 4096, .inl (fun _ => 0)))] H := hP
  have hD : va_D A [(mO, .inr (7, [.int 0, .ref n1, .null, .null, .int 0, .int 0, .int 0, .int 0, .int 0, .int 0, .int 0, .int 0, .int 0, .int 0, .int 0, .long 0, .int 0, .null, .int 0, .null, .int 0, .int 0, .int 0, .int 0, .int 0, .int 0, .int 0, .int 0, .int 0, .int 0])), (n1, .inl (cI, 4096, .inl (fun _ => 0)))] := hD
  refine lv_aload_n hx hb dX7_init_13 rfl (lv_at hl 0 rfl) ?_
  refine lv_sipush (v := 4096) hx hb dX7_init_14 (by decide) ?_
  refine va_newa (atype := .int) (ty := .int) (a0 := (4096, .inl (fun _ => 0))) (N' := 4096) hx hb (hts _ qX7_init_3) rfl hK hP hD hS hA (fun _ => rfl) (by decide) (by decide) (by decide) (Nat.le_of_ble_eq_true rfl) (Nat.le_of_ble_eq_true rfl) dX7_init_17 (fun n2 cA H hK2 hP hD hS => ?_)
  have h9 := (one_int hK2).symm
  subst h9
  clear hK2
  have hP : va_P (dC, dI) vwCl [(mO, .inr (7, [.int 0, .ref n1, .null, .null, .int 0, .int 0, .int 0, .int 0, .int 0, .int 0, .int 0, .int 0, .int 0, .int 0, .int 0, .long 0, .int 0, .null, .int 0, .null, .int 0, .int 0, .int 0, .int 0, .int 0, .int 0, .int 0, .int 0, .int 0, .int 0])), (n1, .inl (cI, 4096, .inl (fun _ => 0))), (n2, .inl (cI, 4096, .inl (fun _ => 0)))] H := hP
  have hD : va_D A [(mO, .inr (7, [.int 0, .ref n1, .null, .null, .int 0, .int 0, .int 0, .int 0, .int 0, .int 0, .int 0, .int 0, .int 0, .int 0, .int 0, .long 0, .int 0, .null, .int 0, .null, .int 0, .int 0, .int 0, .int 0, .int 0, .int 0, .int 0, .int 0, .int 0, .int 0])), (n1, .inl (cI, 4096, .inl (fun _ => 0))), (n2, .inl (cI, 4096, .inl (fun _ => 0)))] := hD
  refine va_putF (D := (dC, dI)) (ci := 7) (v := .ref n2) (ty := (.array .int)) (C := RX7) (T := TX7) (N := 30) hx hb hts iX7_init_X7 tyX7 tyX7_ok nmX7 hown hK hP hD hS 0 rfl rfl 2 (by decide) (hts _ qX7_init_5) (fun _ h9 => h9) rfl hin rfl (by decide +kernel) rfl rfl (Nat.le_of_ble_eq_true rfl) dX7_init_19 (fun H locs hP hD hS => ?_)
  have hP : va_P (dC, dI) vwCl [(mO, .inr (7, [.int 0, .ref n1, .ref n2, .null, .int 0, .int 0, .int 0, .int 0, .int 0, .int 0, .int 0, .int 0, .int 0, .int 0, .int 0, .long 0, .int 0, .null, .int 0, .null, .int 0, .int 0, .int 0, .int 0, .int 0, .int 0, .int 0, .int 0, .int 0, .int 0])), (n1, .inl (cI, 4096, .inl (fun _ => 0))), (n2, .inl (cI, 4096, .inl (fun _ => 0)))] H := hP
  have hD : va_D A [(mO, .inr (7, [.int 0, .ref n1, .ref n2, .null, .int 0, .int 0, .int 0, .int 0, .int 0, .int 0, .int 0, .int 0, .int 0, .int 0, .int 0, .long 0, .int 0, .null, .int 0, .null, .int 0, .int 0, .int 0, .int 0, .int 0, .int 0, .int 0, .int 0, .int 0, .int 0])), (n1, .inl (cI, 4096, .inl (fun _ => 0))), (n2, .inl (cI, 4096, .inl (fun _ => 0)))] := hD
  refine lv_aload_n hx hb dX7_init_22 rfl (lv_at hl 0 rfl) ?_
  refine lv_bipush (v := 8) hx hb dX7_init_23 (by decide) ?_
  refine va_newa (atype := .int) (ty := .int) (a0 := (8, .inl (fun _ => 0))) (N' := 8) hx hb (hts _ qX7_init_3) rfl hK hP hD hS hA (fun _ => rfl) (by decide) (by decide) (by decide) (Nat.le_of_ble_eq_true rfl) (Nat.le_of_ble_eq_true rfl) dX7_init_25 (fun n3 cA H hK2 hP hD hS => ?_)
  have h9 := (one_int hK2).symm
  subst h9
  clear hK2
  have hP : va_P (dC, dI) vwCl [(mO, .inr (7, [.int 0, .ref n1, .ref n2, .null, .int 0, .int 0, .int 0, .int 0, .int 0, .int 0, .int 0, .int 0, .int 0, .int 0, .int 0, .long 0, .int 0, .null, .int 0, .null, .int 0, .int 0, .int 0, .int 0, .int 0, .int 0, .int 0, .int 0, .int 0, .int 0])), (n1, .inl (cI, 4096, .inl (fun _ => 0))), (n2, .inl (cI, 4096, .inl (fun _ => 0))), (n3, .inl (cI, 8, .inl (fun _ => 0)))] H := hP
  have hD : va_D A [(mO, .inr (7, [.int 0, .ref n1, .ref n2, .null, .int 0, .int 0, .int 0, .int 0, .int 0, .int 0, .int 0, .int 0, .int 0, .int 0, .int 0, .long 0, .int 0, .null, .int 0, .null, .int 0, .int 0, .int 0, .int 0, .int 0, .int 0, .int 0, .int 0, .int 0, .int 0])), (n1, .inl (cI, 4096, .inl (fun _ => 0))), (n2, .inl (cI, 4096, .inl (fun _ => 0))), (n3, .inl (cI, 8, .inl (fun _ => 0)))] := hD
  refine va_putF (D := (dC, dI)) (ci := 7) (v := .ref n3) (ty := (.array .int)) (C := RX7) (T := TX7) (N := 30) hx hb hts iX7_init_X7 tyX7 tyX7_ok nmX7 hown hK hP hD hS 0 rfl rfl 3 (by decide) (hts _ qX7_init_6) (fun _ h9 => h9) rfl hin rfl (by decide +kernel) rfl rfl (Nat.le_of_ble_eq_true rfl) dX7_init_27 (fun H locs hP hD hS => ?_)
  have hP : va_P (dC, dI) vwCl [(mO, .inr (7, [.int 0, .ref n1, .ref n2, .ref n3, .int 0, .int 0, .int 0, .int 0, .int 0, .int 0, .int 0, .int 0, .int 0, .int 0, .int 0, .long 0, .int 0, .null, .int 0, .null, .int 0, .int 0, .int 0, .int 0, .int 0, .int 0, .int 0, .int 0, .int 0, .int 0])), (n1, .inl (cI, 4096, .inl (fun _ => 0))), (n2, .inl (cI, 4096, .inl (fun _ => 0))), (n3, .inl (cI, 8, .inl (fun _ => 0)))] H := hP
  have hD : va_D A [(mO, .inr (7, [.int 0, .ref n1, .ref n2, .ref n3, .int 0, .int 0, .int 0, .int 0, .int 0, .int 0, .int 0, .int 0, .int 0, .int 0, .int 0, .long 0, .int 0, .null, .int 0, .null, .int 0, .int 0, .int 0, .int 0, .int 0, .int 0, .int 0, .int 0, .int 0, .int 0])), (n1, .inl (cI, 4096, .inl (fun _ => 0))), (n2, .inl (cI, 4096, .inl (fun _ => 0))), (n3, .inl (cI, 8, .inl (fun _ => 0)))] := hD
  refine lv_aload_n hx hb dX7_init_30 rfl (lv_at hl 0 rfl) ?_
  refine lv_iconst (v := (-1)) hx hb dX7_init_31 (by decide) ?_
  refine va_put (D := (dC, dI)) (ci := 7) (v := .int (-1)) (ty := .int) (C := RX7) (T := TX7) (N := 30) hx hb hts iX7_init_X7 tyX7 tyX7_ok nmX7 hown hK hP hD hS 0 rfl rfl 14 (by decide) (hts _ qX7_init_7) (fun _ h9 => h9) rfl (by decide +kernel) rfl rfl (Nat.le_of_ble_eq_true rfl) dX7_init_32 (fun H locs hP hD hS => ?_)
  have hP : va_P (dC, dI) vwCl [(mO, .inr (7, [.int 0, .ref n1, .ref n2, .ref n3, .int 0, .int 0, .int 0, .int 0, .int 0, .int 0, .int 0, .int 0, .int 0, .int 0, .int (-1), .long 0, .int 0, .null, .int 0, .null, .int 0, .int 0, .int 0, .int 0, .int 0, .int 0, .int 0, .int 0, .int 0, .int 0])), (n1, .inl (cI, 4096, .inl (fun _ => 0))), (n2, .inl (cI, 4096, .inl (fun _ => 0))), (n3, .inl (cI, 8, .inl (fun _ => 0)))] H := hP
  have hD : va_D A [(mO, .inr (7, [.int 0, .ref n1, .ref n2, .ref n3, .int 0, .int 0, .int 0, .int 0, .int 0, .int 0, .int 0, .int 0, .int 0, .int 0, .int (-1), .long 0, .int 0, .null, .int 0, .null, .int 0, .int 0, .int 0, .int 0, .int 0, .int 0, .int 0, .int 0, .int 0, .int 0])), (n1, .inl (cI, 4096, .inl (fun _ => 0))), (n2, .inl (cI, 4096, .inl (fun _ => 0))), (n3, .inl (cI, 8, .inl (fun _ => 0)))] := hD
  refine lv_aload_n hx hb dX7_init_35 rfl (lv_at hl 0 rfl) ?_
  refine lv_bipush (v := 64) hx hb dX7_init_36 (by decide) ?_
  refine va_newa (atype := .int) (ty := .int) (a0 := (64, .inl (fun _ => 0))) (N' := 64) hx hb (hts _ qX7_init_3) rfl hK hP hD hS hA (fun _ => rfl) (by decide) (by decide) (by decide) (Nat.le_of_ble_eq_true rfl) (Nat.le_of_ble_eq_true rfl) dX7_init_38 (fun n4 cA H hK2 hP hD hS => ?_)
  have h9 := (one_int hK2).symm
  subst h9
  clear hK2
  have hP : va_P (dC, dI) vwCl [(mO, .inr (7, [.int 0, .ref n1, .ref n2, .ref n3, .int 0, .int 0, .int 0, .int 0, .int 0, .int 0, .int 0, .int 0, .int 0, .int 0, .int (-1), .long 0, .int 0, .null, .int 0, .null, .int 0, .int 0, .int 0, .int 0, .int 0, .int 0, .int 0, .int 0, .int 0, .int 0])), (n1, .inl (cI, 4096, .inl (fun _ => 0))), (n2, .inl (cI, 4096, .inl (fun _ => 0))), (n3, .inl (cI, 8, .inl (fun _ => 0))), (n4, .inl (cI, 64, .inl (fun _ => 0)))] H := hP
  have hD : va_D A [(mO, .inr (7, [.int 0, .ref n1, .ref n2, .ref n3, .int 0, .int 0, .int 0, .int 0, .int 0, .int 0, .int 0, .int 0, .int 0, .int 0, .int (-1), .long 0, .int 0, .null, .int 0, .null, .int 0, .int 0, .int 0, .int 0, .int 0, .int 0, .int 0, .int 0, .int 0, .int 0])), (n1, .inl (cI, 4096, .inl (fun _ => 0))), (n2, .inl (cI, 4096, .inl (fun _ => 0))), (n3, .inl (cI, 8, .inl (fun _ => 0))), (n4, .inl (cI, 64, .inl (fun _ => 0)))] := hD
  refine va_putF (D := (dC, dI)) (ci := 7) (v := .ref n4) (ty := (.array .int)) (C := RX7) (T := TX7) (N := 30) hx hb hts iX7_init_X7 tyX7 tyX7_ok nmX7 hown hK hP hD hS 0 rfl rfl 17 (by decide) (hts _ qX7_init_8) (fun _ h9 => h9) rfl hin rfl (by decide +kernel) rfl rfl (Nat.le_of_ble_eq_true rfl) dX7_init_40 (fun H locs hP hD hS => ?_)
  have hP : va_P (dC, dI) vwCl [(mO, .inr (7, [.int 0, .ref n1, .ref n2, .ref n3, .int 0, .int 0, .int 0, .int 0, .int 0, .int 0, .int 0, .int 0, .int 0, .int 0, .int (-1), .long 0, .int 0, .ref n4, .int 0, .null, .int 0, .int 0, .int 0, .int 0, .int 0, .int 0, .int 0, .int 0, .int 0, .int 0])), (n1, .inl (cI, 4096, .inl (fun _ => 0))), (n2, .inl (cI, 4096, .inl (fun _ => 0))), (n3, .inl (cI, 8, .inl (fun _ => 0))), (n4, .inl (cI, 64, .inl (fun _ => 0)))] H := hP
  have hD : va_D A [(mO, .inr (7, [.int 0, .ref n1, .ref n2, .ref n3, .int 0, .int 0, .int 0, .int 0, .int 0, .int 0, .int 0, .int 0, .int 0, .int 0, .int (-1), .long 0, .int 0, .ref n4, .int 0, .null, .int 0, .int 0, .int 0, .int 0, .int 0, .int 0, .int 0, .int 0, .int 0, .int 0])), (n1, .inl (cI, 4096, .inl (fun _ => 0))), (n2, .inl (cI, 4096, .inl (fun _ => 0))), (n3, .inl (cI, 8, .inl (fun _ => 0))), (n4, .inl (cI, 64, .inl (fun _ => 0)))] := hD
  refine lv_aload_n hx hb dX7_init_43 rfl (lv_at hl 0 rfl) ?_
  refine lv_sipush (v := 256) hx hb dX7_init_44 (by decide) ?_
  refine va_newa (atype := .int) (ty := .int) (a0 := (256, .inl (fun _ => 0))) (N' := 256) hx hb (hts _ qX7_init_3) rfl hK hP hD hS hA (fun _ => rfl) (by decide) (by decide) (by decide) (Nat.le_of_ble_eq_true rfl) (Nat.le_of_ble_eq_true rfl) dX7_init_47 (fun n5 cA H hK2 hP hD hS => ?_)
  have h9 := (one_int hK2).symm
  subst h9
  clear hK2
  have hP : va_P (dC, dI) vwCl [(mO, .inr (7, [.int 0, .ref n1, .ref n2, .ref n3, .int 0, .int 0, .int 0, .int 0, .int 0, .int 0, .int 0, .int 0, .int 0, .int 0, .int (-1), .long 0, .int 0, .ref n4, .int 0, .null, .int 0, .int 0, .int 0, .int 0, .int 0, .int 0, .int 0, .int 0, .int 0, .int 0])), (n1, .inl (cI, 4096, .inl (fun _ => 0))), (n2, .inl (cI, 4096, .inl (fun _ => 0))), (n3, .inl (cI, 8, .inl (fun _ => 0))), (n4, .inl (cI, 64, .inl (fun _ => 0))), (n5, .inl (cI, 256, .inl (fun _ => 0)))] H := hP
  have hD : va_D A [(mO, .inr (7, [.int 0, .ref n1, .ref n2, .ref n3, .int 0, .int 0, .int 0, .int 0, .int 0, .int 0, .int 0, .int 0, .int 0, .int 0, .int (-1), .long 0, .int 0, .ref n4, .int 0, .null, .int 0, .int 0, .int 0, .int 0, .int 0, .int 0, .int 0, .int 0, .int 0, .int 0])), (n1, .inl (cI, 4096, .inl (fun _ => 0))), (n2, .inl (cI, 4096, .inl (fun _ => 0))), (n3, .inl (cI, 8, .inl (fun _ => 0))), (n4, .inl (cI, 64, .inl (fun _ => 0))), (n5, .inl (cI, 256, .inl (fun _ => 0)))] := hD
  refine va_putF (D := (dC, dI)) (ci := 7) (v := .ref n5) (ty := (.array .int)) (C := RX7) (T := TX7) (N := 30) hx hb hts iX7_init_X7 tyX7 tyX7_ok nmX7 hown hK hP hD hS 0 rfl rfl 19 (by decide) (hts _ qX7_init_9) (fun _ h9 => h9) rfl hin rfl (by decide +kernel) rfl rfl (Nat.le_of_ble_eq_true rfl) dX7_init_49 (fun H locs hP hD hS => ?_)
  have hP : va_P (dC, dI) vwCl [(mO, .inr (7, [.int 0, .ref n1, .ref n2, .ref n3, .int 0, .int 0, .int 0, .int 0, .int 0, .int 0, .int 0, .int 0, .int 0, .int 0, .int (-1), .long 0, .int 0, .ref n4, .int 0, .ref n5, .int 0, .int 0, .int 0, .int 0, .int 0, .int 0, .int 0, .int 0, .int 0, .int 0])), (n1, .inl (cI, 4096, .inl (fun _ => 0))), (n2, .inl (cI, 4096, .inl (fun _ => 0))), (n3, .inl (cI, 8, .inl (fun _ => 0))), (n4, .inl (cI, 64, .inl (fun _ => 0))), (n5, .inl (cI, 256, .inl (fun _ => 0)))] H := hP
  have hD : va_D A [(mO, .inr (7, [.int 0, .ref n1, .ref n2, .ref n3, .int 0, .int 0, .int 0, .int 0, .int 0, .int 0, .int 0, .int 0, .int 0, .int 0, .int (-1), .long 0, .int 0, .ref n4, .int 0, .ref n5, .int 0, .int 0, .int 0, .int 0, .int 0, .int 0, .int 0, .int 0, .int 0, .int 0])), (n1, .inl (cI, 4096, .inl (fun _ => 0))), (n2, .inl (cI, 4096, .inl (fun _ => 0))), (n3, .inl (cI, 8, .inl (fun _ => 0))), (n4, .inl (cI, 64, .inl (fun _ => 0))), (n5, .inl (cI, 256, .inl (fun _ => 0)))] := hD
  have hP9 := hP.sub (ws' := [(mO, .inr (7, [.int 0, .ref n1, .ref n2, .ref n3, .int 0, .int 0, .int 0, .int 0, .int 0, .int 0, .int 0, .int 0, .int 0, .int 0, .int (-1), .long 0, .int 0, .ref n4, .int 0, .ref n5, .int 0, .int 0, .int 0, .int 0, .int 0, .int 0, .int 0, .int 0, .int 0, .int 0])), (n1, .inl (cI, 4096, .inl (fun _ => 0))), (n2, .inl (cI, 4096, .inl (fun _ => 0))), (n3, .inl (cI, 8, .inl (fun _ => 0))), (n4, .inl (cI, 64, .inl (fun _ => 0))), (n5, .inl (cI, 256, .inl (fun _ => 0)))]) [0, 1, 2, 3, 4, 5] rfl
  have hD9 := hD.sub (ws' := [(mO, .inr (7, [.int 0, .ref n1, .ref n2, .ref n3, .int 0, .int 0, .int 0, .int 0, .int 0, .int 0, .int 0, .int 0, .int 0, .int 0, .int (-1), .long 0, .int 0, .ref n4, .int 0, .ref n5, .int 0, .int 0, .int 0, .int 0, .int 0, .int 0, .int 0, .int 0, .int 0, .int 0])), (n1, .inl (cI, 4096, .inl (fun _ => 0))), (n2, .inl (cI, 4096, .inl (fun _ => 0))), (n3, .inl (cI, 8, .inl (fun _ => 0))), (n4, .inl (cI, 64, .inl (fun _ => 0))), (n5, .inl (cI, 256, .inl (fun _ => 0)))]) [0, 1, 2, 3, 4, 5] (by decide) rfl
  refine W.widen (k := 5) (n := 8520) (Nat.le_of_ble_eq_true rfl) (Nat.le_of_ble_eq_true rfl) ?_
  exact W.vret hx hb hr (fun t ht hW => ⟨⟨(n1, n2, n3, n4, n5), rfl, trivial, by rw [ht]; exact hP9, va_K.moved hW.alike hK, hD9⟩, hS.F ht⟩) hS.2.2 dX7_init_52
