def f_X7_sum_ (u : MW) (a1 : Int32) (a2 : Int32) : MW := (f_X7_logic (sMW_r (sMW_c (sMW_h u (if (((((gMW_r u) (7 : Int32).toNatClampNeg) &&& (15 : Int32)) + (a1 &&& (15 : Int32))) + a2) ≤ (15 : Int32) then false else true : Bool)) (if ((((gMW_r u) (7 : Int32).toNatClampNeg) + a1) + a2) ≤ (255 : Int32) then false else true : Bool)) (upd (gMW_r (sMW_c (sMW_h u (if (((((gMW_r u) (7 : Int32).toNatClampNeg) &&& (15 : Int32)) + (a1 &&& (15 : Int32))) + a2) ≤ (15 : Int32) then false else true : Bool)) (if ((((gMW_r u) (7 : Int32).toNatClampNeg) + a1) + a2) ≤ (255 : Int32) then false else true : Bool))) (7 : Int32).toNatClampNeg (((((gMW_r u) (7 : Int32).toNatClampNeg) + a1) + a2) &&& (255 : Int32)))) ((gMW_r (sMW_r (sMW_c (sMW_h u (if (((((gMW_r u) (7 : Int32).toNatClampNeg) &&& (15 : Int32)) + (a1 &&& (15 : Int32))) + a2) ≤ (15 : Int32) then false else true : Bool)) (if ((((gMW_r u) (7 : Int32).toNatClampNeg) + a1) + a2) ≤ (255 : Int32) then false else true : Bool)) (upd (gMW_r (sMW_c (sMW_h u (if (((((gMW_r u) (7 : Int32).toNatClampNeg) &&& (15 : Int32)) + (a1 &&& (15 : Int32))) + a2) ≤ (15 : Int32) then false else true : Bool)) (if ((((gMW_r u) (7 : Int32).toNatClampNeg) + a1) + a2) ≤ (255 : Int32) then false else true : Bool))) (7 : Int32).toNatClampNeg (((((gMW_r u) (7 : Int32).toNatClampNeg) + a1) + a2) &&& (255 : Int32))))) (7 : Int32).toNatClampNeg))
theorem qX7_sum__0 : Cond.fieldLink RX7 16 "DiskMachineModel" "\x72" "[I" ∈ wsX7_sum_ := by decide +kernel
theorem qX7_sum__1 : Cond.fieldLink RX7 74 "DiskMachineModel" "half" "Z" ∈ wsX7_sum_ := by decide +kernel
theorem qX7_sum__2 : Cond.fieldLink RX7 80 "DiskMachineModel" "carry" "Z" ∈ wsX7_sum_ := by decide +kernel
theorem iX7_sum__X7 : ∀ w ∈ wsX70, w ∈ wsX7_sum_ := by decide +kernel
set_option maxHeartbeats 4000000 in
set_option maxRecDepth 100000 in
theorem k_X7_sum_ (l : Launch) (dC : Nat → ClassId) (dI : Nat → Nat → Nat) (cI : ClassId) (mO memA dskA rgA inA outA : Nat) (sz : Nat) (u : MW) (a1 : Int32) (a2 : Int32) : Met l yX7_sum_ wsX7_sum_ ({ frames := 1, cells := 0, slots := 0, locals := 23 }) (va_Pc [.ref mO, .int a1, .int a2] (wB dC dI [(cI, .int)] sz (wM cI mO memA dskA rgA inA outA u))) (va_Qv (fun u' : MW => u' = (f_X7_sum_ u a1 a2)) (fun u' => wE dC dI [(cI, .int)] (va_A (wM cI mO memA dskA rgA inA outA u) sz) (wM cI mO memA dskA rgA inA outA u')) (va_A (wM cI mO memA dskA rgA inA outA u) sz)) 0 0 (va_A (wM cI mO memA dskA rgA inA outA u) sz) := by
  refine Met.ofW (cc := cX7_sum_) (maxL := 4) (ret := none) (by decide) rfl ?_
  intro p e s m args below meth c s₁ B hml hv
  obtain ⟨rfl, hsz, hP, hK, hD0⟩ := hv
  have hx := B.exec
  have hb := B.bytes
  have hr := B.returns
  have hts := atoms_spec (ws := wsX7_sum_) B.pre
  have hown : s.vm.findClass RX7 = some m.cls := findClass_of_methodNamed B.named
  have hlocks := B.notSynchronized
  subst hsz
  have hD := hD0.self (sz := s.heap.size)
  generalize hAe : va_A (wM cI mO memA dskA rgA inA outA u) s.heap.size = A at hD ⊢
  have hA : ∀ q : Nat, s.heap.size ≤ q → A q := fun q h => by rw [← hAe]; exact Or.inr h
  have hS : va_S A s.heap s.heap [] := va_S.rf
  have hP : va_P (dC, dI) vwCl (wM cI mO memA dskA rgA inA outA u) s.heap := hP
  clear hAe hD0
  have hl := lv_entry ([.ref mO, .int a1, .int a2]) (n := 4) (Nat.le_of_ble_eq_true rfl)
  rw [lg_entry_eq]
  generalize (lg_sl ([.ref mO, .int a1, .int a2]) ++ List.replicate (4 - (lg_sl ([.ref mO, .int a1, .int a2])).length) Slot.unset).toArray = ls at hl ⊢
  have hl : lv_has ls 4 [(0, .ref mO), (1, .int a1), (2, .int a2)] := hl
  refine jn_H hP hS (fun H locs hP hS => ?_)
  refine lv_aload_n hx hb dX7_sum__0 rfl (lv_at hl 0 rfl) ?_
  refine va_get (D := (dC, dI)) (ci := 7) (v := .ref rgA) (C := RX7) (T := TX7) (N := 30) hx hb hts iX7_sum__X7 hown hK hP 0 rfl rfl 3 (by decide) (hts _ qX7_sum__0) (fun _ h9 => h9) rfl dX7_sum__1 ?_
  refine lv_bipush (v := 7) hx hb dX7_sum__4 (by decide) ?_
  refine va_iald (f := (gMW_r u)) hx hb hK hP 3 0 rfl rfl (ix_lit (by decide)) dX7_sum__6 ?_
  refine lv_iload_n hx hb dX7_sum__7 rfl (lv_at hl 1 rfl) ?_
  refine lv_iadd hx hb dX7_sum__8 ?_
  refine lv_iload_n hx hb dX7_sum__9 rfl (lv_at hl 2 rfl) ?_
  refine lv_iadd hx hb dX7_sum__10 ?_
  refine lv_istore_n (lv' := [(3, .int ((((gMW_r u) (7 : Int32).toNatClampNeg) + a1) + a2)), (0, .ref mO), (1, .int a1), (2, .int a2)]) hx hb dX7_sum__11 rfl hl (by decide) rfl (fun ls hl => ?_)
  refine lv_aload_n hx hb dX7_sum__12 rfl (lv_at hl 1 rfl) ?_
  refine lv_aload_n hx hb dX7_sum__13 rfl (lv_at hl 1 rfl) ?_
  refine va_get (D := (dC, dI)) (ci := 7) (v := .ref rgA) (C := RX7) (T := TX7) (N := 30) hx hb hts iX7_sum__X7 hown hK hP 0 rfl rfl 3 (by decide) (hts _ qX7_sum__0) (fun _ h9 => h9) rfl dX7_sum__14 ?_
  refine lv_bipush (v := 7) hx hb dX7_sum__17 (by decide) ?_
  refine va_iald (f := (gMW_r u)) hx hb hK hP 3 0 rfl rfl (ix_lit (by decide)) dX7_sum__19 ?_
  refine lv_bipush (v := 15) hx hb dX7_sum__20 (by decide) ?_
  refine lv_iand hx hb dX7_sum__22 ?_
  refine lv_iload_n hx hb dX7_sum__23 rfl (lv_at hl 2 rfl) ?_
  refine lv_bipush (v := 15) hx hb dX7_sum__24 (by decide) ?_
  refine lv_iand hx hb dX7_sum__26 ?_
  refine lv_iadd hx hb dX7_sum__27 ?_
  refine lv_iload_n hx hb dX7_sum__28 rfl (lv_at hl 3 rfl) ?_
  refine lv_iadd hx hb dX7_sum__29 ?_
  refine lv_bipush (v := 15) hx hb dX7_sum__30 (by decide) ?_
  refine jn_b (D := (dC, dI)) (cl := vwCl) (ws := (wM cI mO memA dskA rgA inA outA u)) (A := A) (H0 := s.heap) (nL := 4) 40 (if (((((gMW_r u) (7 : Int32).toNatClampNeg) &&& (15 : Int32)) + (a1 &&& (15 : Int32))) + a2) ≤ (15 : Int32) then false else true : Bool) [(0, .ref mO), (1, .int a1), (2, .int a2), (3, .int ((((gMW_r u) (7 : Int32).toNatClampNeg) + a1) + a2))] [.ref mO] (fun H locs ls hP hS hl => ?_) (fun hJ1 => ?_)
  · skip
    refine va_put (D := (dC, dI)) (ci := 7) (v := .int (bI (if (((((gMW_r u) (7 : Int32).toNatClampNeg) &&& (15 : Int32)) + (a1 &&& (15 : Int32))) + a2) ≤ (15 : Int32) then false else true : Bool))) (ty := .boolean) (C := RX7) (T := TX7) (N := 30) hx hb hts iX7_sum__X7 tyX7 tyX7_ok nmX7 hown hK hP hD hS 0 rfl rfl 6 (by decide) (hts _ qX7_sum__1) (fun _ h9 => h9) rfl (by decide +kernel) (bI_nar (if (((((gMW_r u) (7 : Int32).toNatClampNeg) &&& (15 : Int32)) + (a1 &&& (15 : Int32))) + a2) ≤ (15 : Int32) then false else true : Bool)) (bI_fit (if (((((gMW_r u) (7 : Int32).toNatClampNeg) &&& (15 : Int32)) + (a1 &&& (15 : Int32))) + a2) ≤ (15 : Int32) then false else true : Bool)) (Nat.le_of_ble_eq_true rfl) dX7_sum__40 (fun H locs hP hD hS => ?_)
    obtain ⟨hP, hD⟩ := pM_h hP hD
    refine lv_aload_n hx hb dX7_sum__43 rfl (lv_at hl 0 rfl) ?_
    refine lv_iload_n hx hb dX7_sum__44 rfl (lv_at hl 3 rfl) ?_
    refine lv_sipush (v := 255) hx hb dX7_sum__45 (by decide) ?_
    refine jn_b (D := (dC, dI)) (cl := vwCl) (ws := (wM cI mO memA dskA rgA inA outA (sMW_h u (if (((((gMW_r u) (7 : Int32).toNatClampNeg) &&& (15 : Int32)) + (a1 &&& (15 : Int32))) + a2) ≤ (15 : Int32) then false else true : Bool)))) (A := A) (H0 := s.heap) (nL := 4) 56 (if ((((gMW_r u) (7 : Int32).toNatClampNeg) + a1) + a2) ≤ (255 : Int32) then false else true : Bool) [(0, .ref mO), (1, .int a1), (2, .int a2), (3, .int ((((gMW_r u) (7 : Int32).toNatClampNeg) + a1) + a2))] [.ref mO] (fun H locs ls hP hS hl => ?_) (fun hJ2 => ?_)
    · skip
      refine va_put (D := (dC, dI)) (ci := 7) (v := .int (bI (if ((((gMW_r u) (7 : Int32).toNatClampNeg) + a1) + a2) ≤ (255 : Int32) then false else true : Bool))) (ty := .boolean) (C := RX7) (T := TX7) (N := 30) hx hb hts iX7_sum__X7 tyX7 tyX7_ok nmX7 hown hK hP hD hS 0 rfl rfl 8 (by decide) (hts _ qX7_sum__2) (fun _ h9 => h9) rfl (by decide +kernel) (bI_nar (if ((((gMW_r u) (7 : Int32).toNatClampNeg) + a1) + a2) ≤ (255 : Int32) then false else true : Bool)) (bI_fit (if ((((gMW_r u) (7 : Int32).toNatClampNeg) + a1) + a2) ≤ (255 : Int32) then false else true : Bool)) (Nat.le_of_ble_eq_true rfl) dX7_sum__56 (fun H locs hP hD hS => ?_)
      obtain ⟨hP, hD⟩ := pM_c hP hD
      refine lv_aload_n hx hb dX7_sum__59 rfl (lv_at hl 0 rfl) ?_
      refine va_get (D := (dC, dI)) (ci := 7) (v := .ref rgA) (C := RX7) (T := TX7) (N := 30) hx hb hts iX7_sum__X7 hown hK hP 0 rfl rfl 3 (by decide) (hts _ qX7_sum__0) (fun _ h9 => h9) rfl dX7_sum__60 ?_
      refine lv_bipush (v := 7) hx hb dX7_sum__63 (by decide) ?_
      refine lv_iload_n hx hb dX7_sum__65 rfl (lv_at hl 3 rfl) ?_
      refine lv_sipush (v := 255) hx hb dX7_sum__66 (by decide) ?_
      refine lv_iand hx hb dX7_sum__69 ?_
      refine va_iast (f := (gMW_r (sMW_c (sMW_h u (if (((((gMW_r u) (7 : Int32).toNatClampNeg) &&& (15 : Int32)) + (a1 &&& (15 : Int32))) + a2) ≤ (15 : Int32) then false else true : Bool)) (if ((((gMW_r u) (7 : Int32).toNatClampNeg) + a1) + a2) ≤ (255 : Int32) then false else true : Bool)))) hx hb hK hP hD hS 3 0 rfl rfl (ix_lit (by decide)) dX7_sum__70 (fun H locs hP hD hS => ?_)
      obtain ⟨hP, hD⟩ := aM_rgA hP hD
      refine lv_aload_n hx hb dX7_sum__71 rfl (lv_at hl 0 rfl) ?_
      refine lv_aload_n hx hb dX7_sum__72 rfl (lv_at hl 0 rfl) ?_
      refine va_get (D := (dC, dI)) (ci := 7) (v := .ref rgA) (C := RX7) (T := TX7) (N := 30) hx hb hts iX7_sum__X7 hown hK hP 0 rfl rfl 3 (by decide) (hts _ qX7_sum__0) (fun _ h9 => h9) rfl dX7_sum__73 ?_
      refine lv_bipush (v := 7) hx hb dX7_sum__76 (by decide) ?_
      refine va_iald (f := (gMW_r (sMW_r (sMW_c (sMW_h u (if (((((gMW_r u) (7 : Int32).toNatClampNeg) &&& (15 : Int32)) + (a1 &&& (15 : Int32))) + a2) ≤ (15 : Int32) then false else true : Bool)) (if ((((gMW_r u) (7 : Int32).toNatClampNeg) + a1) + a2) ≤ (255 : Int32) then false else true : Bool)) (upd (gMW_r (sMW_c (sMW_h u (if (((((gMW_r u) (7 : Int32).toNatClampNeg) &&& (15 : Int32)) + (a1 &&& (15 : Int32))) + a2) ≤ (15 : Int32) then false else true : Bool)) (if ((((gMW_r u) (7 : Int32).toNatClampNeg) + a1) + a2) ≤ (255 : Int32) then false else true : Bool))) (7 : Int32).toNatClampNeg (((((gMW_r u) (7 : Int32).toNatClampNeg) + a1) + a2) &&& (255 : Int32)))))) hx hb hK hP 3 0 rfl rfl (ix_lit (by decide)) dX7_sum__78 ?_
      obtain ⟨hPc, hDc, hFc⟩ := xM_M hP hD hS hA
      have hKc := hK.sub (tys' := [(cI, .int)]) [0] rfl
      refine va_callv (va_runV (As := [.int ((gMW_r (sMW_r (sMW_c (sMW_h u (if (((((gMW_r u) (7 : Int32).toNatClampNeg) &&& (15 : Int32)) + (a1 &&& (15 : Int32))) + a2) ≤ (15 : Int32) then false else true : Bool)) (if ((((gMW_r u) (7 : Int32).toNatClampNeg) + a1) + a2) ≤ (255 : Int32) then false else true : Bool)) (upd (gMW_r (sMW_c (sMW_h u (if (((((gMW_r u) (7 : Int32).toNatClampNeg) &&& (15 : Int32)) + (a1 &&& (15 : Int32))) + a2) ≤ (15 : Int32) then false else true : Bool)) (if ((((gMW_r u) (7 : Int32).toNatClampNeg) + a1) + a2) ≤ (255 : Int32) then false else true : Bool))) (7 : Int32).toNatClampNeg (((((gMW_r u) (7 : Int32).toNatClampNeg) + a1) + a2) &&& (255 : Int32))))) (7 : Int32).toNatClampNeg)]) (rest := []) ⟨hx, hb, hml, hown, hts⟩ (k_X7_logic l dC dI cI mO memA dskA rgA inA outA H.size (sMW_r (sMW_c (sMW_h u (if (((((gMW_r u) (7 : Int32).toNatClampNeg) &&& (15 : Int32)) + (a1 &&& (15 : Int32))) + a2) ≤ (15 : Int32) then false else true : Bool)) (if ((((gMW_r u) (7 : Int32).toNatClampNeg) + a1) + a2) ≤ (255 : Int32) then false else true : Bool)) (upd (gMW_r (sMW_c (sMW_h u (if (((((gMW_r u) (7 : Int32).toNatClampNeg) &&& (15 : Int32)) + (a1 &&& (15 : Int32))) + a2) ≤ (15 : Int32) then false else true : Bool)) (if ((((gMW_r u) (7 : Int32).toNatClampNeg) + a1) + a2) ≤ (255 : Int32) then false else true : Bool))) (7 : Int32).toNatClampNeg (((((gMW_r u) (7 : Int32).toNatClampNeg) + a1) + a2) &&& (255 : Int32)))) ((gMW_r (sMW_r (sMW_c (sMW_h u (if (((((gMW_r u) (7 : Int32).toNatClampNeg) &&& (15 : Int32)) + (a1 &&& (15 : Int32))) + a2) ≤ (15 : Int32) then false else true : Bool)) (if ((((gMW_r u) (7 : Int32).toNatClampNeg) + a1) + a2) ≤ (255 : Int32) then false else true : Bool)) (upd (gMW_r (sMW_c (sMW_h u (if (((((gMW_r u) (7 : Int32).toNatClampNeg) &&& (15 : Int32)) + (a1 &&& (15 : Int32))) + a2) ≤ (15 : Int32) then false else true : Bool)) (if ((((gMW_r u) (7 : Int32).toNatClampNeg) + a1) + a2) ≤ (255 : Int32) then false else true : Bool))) (7 : Int32).toNatClampNeg (((((gMW_r u) (7 : Int32).toNatClampNeg) + a1) + a2) &&& (255 : Int32))))) (7 : Int32).toNatClampNeg)) (cwV 1 hts gX7_sum__X7_logic rfl rfl rfl (by decide +kernel) ⟨Nat.le_of_ble_eq_true rfl, Nat.le_of_ble_eq_true rfl⟩) ⟨fun a U g mk q => by obtain ⟨q0, q1, qP, qK, qD⟩ := q; exact ⟨q0, q1, qP, va_K.moved (u := U) (U := U.calling g mk a) (Vm.Alike.refl U.vm) qK, qD⟩, va_recv hKc hPc (ci := 7) (q0 := 0) rfl rfl, fun U hU hW => ⟨rfl, by rw [hU], by rw [hU]; exact hPc, va_K.moved hW.alike hKc, hDc.weaken (fun _ _ _ _ => trivial)⟩⟩ rfl rfl hl.1 rfl (lv_room (Nat.le_of_ble_eq_true rfl)) dX7_sum__79 ⟨Nat.le_of_ble_eq_true rfl, Nat.le_of_ble_eq_true rfl⟩) hS (fun q _ h => hFc q h) hFc (fun u9 t H1 locs ht hvm hw hB hz1 hk1 hS => ?_)
      subst hw
      obtain ⟨hP1, hK1, hD1⟩ := hB
      rw [ht] at hP1
      obtain ⟨hP, hD⟩ := jM_M hP hD hk1 hFc hP1 hD1
      clear hPc hDc hKc hFc hz1 hk1 hP1 hK1 hD1 ht hvm
      generalize H1 = H at hP hS ⊢
      exact W.vret hx hb hr (fun t ht hW => ⟨⟨(f_X7_logic (sMW_r (sMW_c (sMW_h u (if (((((gMW_r u) (7 : Int32).toNatClampNeg) &&& (15 : Int32)) + (a1 &&& (15 : Int32))) + a2) ≤ (15 : Int32) then false else true : Bool)) (if ((((gMW_r u) (7 : Int32).toNatClampNeg) + a1) + a2) ≤ (255 : Int32) then false else true : Bool)) (upd (gMW_r (sMW_c (sMW_h u (if (((((gMW_r u) (7 : Int32).toNatClampNeg) &&& (15 : Int32)) + (a1 &&& (15 : Int32))) + a2) ≤ (15 : Int32) then false else true : Bool)) (if ((((gMW_r u) (7 : Int32).toNatClampNeg) + a1) + a2) ≤ (255 : Int32) then false else true : Bool))) (7 : Int32).toNatClampNeg (((((gMW_r u) (7 : Int32).toNatClampNeg) + a1) + a2) &&& (255 : Int32)))) ((gMW_r (sMW_r (sMW_c (sMW_h u (if (((((gMW_r u) (7 : Int32).toNatClampNeg) &&& (15 : Int32)) + (a1 &&& (15 : Int32))) + a2) ≤ (15 : Int32) then false else true : Bool)) (if ((((gMW_r u) (7 : Int32).toNatClampNeg) + a1) + a2) ≤ (255 : Int32) then false else true : Bool)) (upd (gMW_r (sMW_c (sMW_h u (if (((((gMW_r u) (7 : Int32).toNatClampNeg) &&& (15 : Int32)) + (a1 &&& (15 : Int32))) + a2) ≤ (15 : Int32) then false else true : Bool)) (if ((((gMW_r u) (7 : Int32).toNatClampNeg) + a1) + a2) ≤ (255 : Int32) then false else true : Bool))) (7 : Int32).toNatClampNeg (((((gMW_r u) (7 : Int32).toNatClampNeg) + a1) + a2) &&& (255 : Int32))))) (7 : Int32).toNatClampNeg)), rfl, rfl, by rw [ht]; exact hP, va_K.moved hW.alike hK, hD⟩, hS.F ht⟩) hS.2.2 dX7_sum__82
    · skip
      refine lv_icmp_le (tgt := 55) hx hb dX7_sum__48 (by decide) (fun c3 => ?_) (fun c3 => ?_)
      · skip
        refine lv_iconst (v := 0) hx hb dX7_sum__55 (by decide) ?_
        exact hJ2 false _ _ _ (by simp only [if_pos c3]) hP hS (lv_sub hl [0, 1, 2, 3] rfl)
      · skip
        refine lv_iconst (v := 1) hx hb dX7_sum__51 (by decide) ?_
        refine lv_goto (tgt := 56) hx hb dX7_sum__52 (by decide) ?_
        exact hJ2 true _ _ _ (by simp only [if_neg c3]) hP hS (lv_sub hl [0, 1, 2, 3] rfl)
  · skip
    refine lv_icmp_le (tgt := 39) hx hb dX7_sum__32 (by decide) (fun c4 => ?_) (fun c4 => ?_)
    · skip
      refine lv_iconst (v := 0) hx hb dX7_sum__39 (by decide) ?_
      exact hJ1 false _ _ _ (by simp only [if_pos c4]) hP hS (lv_sub hl [1, 2, 3, 0] rfl)
    · skip
      refine lv_iconst (v := 1) hx hb dX7_sum__35 (by decide) ?_
      refine lv_goto (tgt := 40) hx hb dX7_sum__36 (by decide) ?_
      exact hJ1 true _ _ _ (by simp only [if_neg c4]) hP hS (lv_sub hl [1, 2, 3, 0] rfl)

def f_X7_less (u : MW) (a1 : Int32) (a2 : Int32) : Int32 × MW := ((((((gMW_r u) (7 : Int32).toNatClampNeg) - a1) - a2) &&& (255 : Int32)), (f_X7_logic (sMW_c (sMW_h u (if (((((gMW_r u) (7 : Int32).toNatClampNeg) &&& (15 : Int32)) - (a1 &&& (15 : Int32))) - a2) < (0 : Int32) then false else true : Bool)) (if (0 : Int32) ≤ ((((gMW_r u) (7 : Int32).toNatClampNeg) - a1) - a2) then false else true : Bool)) (((((gMW_r u) (7 : Int32).toNatClampNeg) - a1) - a2) &&& (255 : Int32))))
theorem qX7_less_0 : Cond.fieldLink RX7 16 "DiskMachineModel" "\x72" "[I" ∈ wsX7_less := by decide +kernel
theorem qX7_less_1 : Cond.fieldLink RX7 74 "DiskMachineModel" "half" "Z" ∈ wsX7_less := by decide +kernel
theorem qX7_less_2 : Cond.fieldLink RX7 80 "DiskMachineModel" "carry" "Z" ∈ wsX7_less := by decide +kernel
theorem iX7_less_X7 : ∀ w ∈ wsX70, w ∈ wsX7_less := by decide +kernel
set_option maxHeartbeats 4000000 in
set_option maxRecDepth 100000 in
theorem k_X7_less (l : Launch) (dC : Nat → ClassId) (dI : Nat → Nat → Nat) (cI : ClassId) (mO memA dskA rgA inA outA : Nat) (sz : Nat) (u : MW) (a1 : Int32) (a2 : Int32) : Met l yX7_less wsX7_less ({ frames := 1, cells := 0, slots := 0, locals := 23 }) (va_Pc [.ref mO, .int a1, .int a2] (wB dC dI [(cI, .int)] sz (wM cI mO memA dskA rgA inA outA u))) (va_Qi (fun (r : Int32) (u' : MW) => r = (f_X7_less u a1 a2).1 ∧ u' = (f_X7_less u a1 a2).2) (fun u' => wE dC dI [(cI, .int)] (va_A (wM cI mO memA dskA rgA inA outA u) sz) (wM cI mO memA dskA rgA inA outA u')) (va_A (wM cI mO memA dskA rgA inA outA u) sz)) 0 0 (va_A (wM cI mO memA dskA rgA inA outA u) sz) := by
  refine Met.ofW (cc := cX7_less) (maxL := 4) (ret := (some .int)) (by decide) rfl ?_
  intro p e s m args below meth c s₁ B hml hv
  obtain ⟨rfl, hsz, hP, hK, hD0⟩ := hv
  have hx := B.exec
  have hb := B.bytes
  have hr := B.returns
  have hts := atoms_spec (ws := wsX7_less) B.pre
  have hown : s.vm.findClass RX7 = some m.cls := findClass_of_methodNamed B.named
  have hlocks := B.notSynchronized
  subst hsz
  have hD := hD0.self (sz := s.heap.size)
  generalize hAe : va_A (wM cI mO memA dskA rgA inA outA u) s.heap.size = A at hD ⊢
  have hA : ∀ q : Nat, s.heap.size ≤ q → A q := fun q h => by rw [← hAe]; exact Or.inr h
  have hS : va_S A s.heap s.heap [] := va_S.rf
  have hP : va_P (dC, dI) vwCl (wM cI mO memA dskA rgA inA outA u) s.heap := hP
  clear hAe hD0
  have hl := lv_entry ([.ref mO, .int a1, .int a2]) (n := 4) (Nat.le_of_ble_eq_true rfl)
  rw [lg_entry_eq]
  generalize (lg_sl ([.ref mO, .int a1, .int a2]) ++ List.replicate (4 - (lg_sl ([.ref mO, .int a1, .int a2])).length) Slot.unset).toArray = ls at hl ⊢
  have hl : lv_has ls 4 [(0, .ref mO), (1, .int a1), (2, .int a2)] := hl
  refine jn_H hP hS (fun H locs hP hS => ?_)
  refine lv_aload_n hx hb dX7_less_0 rfl (lv_at hl 0 rfl) ?_
  refine va_get (D := (dC, dI)) (ci := 7) (v := .ref rgA) (C := RX7) (T := TX7) (N := 30) hx hb hts iX7_less_X7 hown hK hP 0 rfl rfl 3 (by decide) (hts _ qX7_less_0) (fun _ h9 => h9) rfl dX7_less_1 ?_
  refine lv_bipush (v := 7) hx hb dX7_less_4 (by decide) ?_
  refine va_iald (f := (gMW_r u)) hx hb hK hP 3 0 rfl rfl (ix_lit (by decide)) dX7_less_6 ?_
  refine lv_iload_n hx hb dX7_less_7 rfl (lv_at hl 1 rfl) ?_
  refine lv_isub hx hb dX7_less_8 ?_
  refine lv_iload_n hx hb dX7_less_9 rfl (lv_at hl 2 rfl) ?_
  refine lv_isub hx hb dX7_less_10 ?_
  refine lv_istore_n (lv' := [(3, .int ((((gMW_r u) (7 : Int32).toNatClampNeg) - a1) - a2)), (0, .ref mO), (1, .int a1), (2, .int a2)]) hx hb dX7_less_11 rfl hl (by decide) rfl (fun ls hl => ?_)
  refine lv_aload_n hx hb dX7_less_12 rfl (lv_at hl 1 rfl) ?_
  refine lv_aload_n hx hb dX7_less_13 rfl (lv_at hl 1 rfl) ?_
  refine va_get (D := (dC, dI)) (ci := 7) (v := .ref rgA) (C := RX7) (T := TX7) (N := 30) hx hb hts iX7_less_X7 hown hK hP 0 rfl rfl 3 (by decide) (hts _ qX7_less_0) (fun _ h9 => h9) rfl dX7_less_14 ?_
  refine lv_bipush (v := 7) hx hb dX7_less_17 (by decide) ?_
  refine va_iald (f := (gMW_r u)) hx hb hK hP 3 0 rfl rfl (ix_lit (by decide)) dX7_less_19 ?_
  refine lv_bipush (v := 15) hx hb dX7_less_20 (by decide) ?_
  refine lv_iand hx hb dX7_less_22 ?_
  refine lv_iload_n hx hb dX7_less_23 rfl (lv_at hl 2 rfl) ?_
  refine lv_bipush (v := 15) hx hb dX7_less_24 (by decide) ?_
  refine lv_iand hx hb dX7_less_26 ?_
  refine lv_isub hx hb dX7_less_27 ?_
  refine lv_iload_n hx hb dX7_less_28 rfl (lv_at hl 3 rfl) ?_
  refine lv_isub hx hb dX7_less_29 ?_
  refine jn_b (D := (dC, dI)) (cl := vwCl) (ws := (wM cI mO memA dskA rgA inA outA u)) (A := A) (H0 := s.heap) (nL := 4) 38 (if (((((gMW_r u) (7 : Int32).toNatClampNeg) &&& (15 : Int32)) - (a1 &&& (15 : Int32))) - a2) < (0 : Int32) then false else true : Bool) [(0, .ref mO), (1, .int a1), (2, .int a2), (3, .int ((((gMW_r u) (7 : Int32).toNatClampNeg) - a1) - a2))] [.ref mO] (fun H locs ls hP hS hl => ?_) (fun hJ1 => ?_)
  · skip
    refine va_put (D := (dC, dI)) (ci := 7) (v := .int (bI (if (((((gMW_r u) (7 : Int32).toNatClampNeg) &&& (15 : Int32)) - (a1 &&& (15 : Int32))) - a2) < (0 : Int32) then false else true : Bool))) (ty := .boolean) (C := RX7) (T := TX7) (N := 30) hx hb hts iX7_less_X7 tyX7 tyX7_ok nmX7 hown hK hP hD hS 0 rfl rfl 6 (by decide) (hts _ qX7_less_1) (fun _ h9 => h9) rfl (by decide +kernel) (bI_nar (if (((((gMW_r u) (7 : Int32).toNatClampNeg) &&& (15 : Int32)) - (a1 &&& (15 : Int32))) - a2) < (0 : Int32) then false else true : Bool)) (bI_fit (if (((((gMW_r u) (7 : Int32).toNatClampNeg) &&& (15 : Int32)) - (a1 &&& (15 : Int32))) - a2) < (0 : Int32) then false else true : Bool)) (Nat.le_of_ble_eq_true rfl) dX7_less_38 (fun H locs hP hD hS => ?_)
    obtain ⟨hP, hD⟩ := pM_h hP hD
    refine lv_aload_n hx hb dX7_less_41 rfl (lv_at hl 0 rfl) ?_
    refine lv_iload_n hx hb dX7_less_42 rfl (lv_at hl 3 rfl) ?_
    refine jn_b (D := (dC, dI)) (cl := vwCl) (ws := (wM cI mO memA dskA rgA inA outA (sMW_h u (if (((((gMW_r u) (7 : Int32).toNatClampNeg) &&& (15 : Int32)) - (a1 &&& (15 : Int32))) - a2) < (0 : Int32) then false else true : Bool)))) (A := A) (H0 := s.heap) (nL := 4) 51 (if (0 : Int32) ≤ ((((gMW_r u) (7 : Int32).toNatClampNeg) - a1) - a2) then false else true : Bool) [(0, .ref mO), (1, .int a1), (2, .int a2), (3, .int ((((gMW_r u) (7 : Int32).toNatClampNeg) - a1) - a2))] [.ref mO] (fun H locs ls hP hS hl => ?_) (fun hJ2 => ?_)
    · skip
      refine va_put (D := (dC, dI)) (ci := 7) (v := .int (bI (if (0 : Int32) ≤ ((((gMW_r u) (7 : Int32).toNatClampNeg) - a1) - a2) then false else true : Bool))) (ty := .boolean) (C := RX7) (T := TX7) (N := 30) hx hb hts iX7_less_X7 tyX7 tyX7_ok nmX7 hown hK hP hD hS 0 rfl rfl 8 (by decide) (hts _ qX7_less_2) (fun _ h9 => h9) rfl (by decide +kernel) (bI_nar (if (0 : Int32) ≤ ((((gMW_r u) (7 : Int32).toNatClampNeg) - a1) - a2) then false else true : Bool)) (bI_fit (if (0 : Int32) ≤ ((((gMW_r u) (7 : Int32).toNatClampNeg) - a1) - a2) then false else true : Bool)) (Nat.le_of_ble_eq_true rfl) dX7_less_51 (fun H locs hP hD hS => ?_)
      obtain ⟨hP, hD⟩ := pM_c hP hD
      refine lv_aload_n hx hb dX7_less_54 rfl (lv_at hl 0 rfl) ?_
      refine lv_iload_n hx hb dX7_less_55 rfl (lv_at hl 3 rfl) ?_
      refine lv_sipush (v := 255) hx hb dX7_less_56 (by decide) ?_
      refine lv_iand hx hb dX7_less_59 ?_
      obtain ⟨hPc, hDc, hFc⟩ := xM_M hP hD hS hA
      have hKc := hK.sub (tys' := [(cI, .int)]) [0] rfl
      refine va_callv (va_runV (As := [.int (((((gMW_r u) (7 : Int32).toNatClampNeg) - a1) - a2) &&& (255 : Int32))]) (rest := []) ⟨hx, hb, hml, hown, hts⟩ (k_X7_logic l dC dI cI mO memA dskA rgA inA outA H.size (sMW_c (sMW_h u (if (((((gMW_r u) (7 : Int32).toNatClampNeg) &&& (15 : Int32)) - (a1 &&& (15 : Int32))) - a2) < (0 : Int32) then false else true : Bool)) (if (0 : Int32) ≤ ((((gMW_r u) (7 : Int32).toNatClampNeg) - a1) - a2) then false else true : Bool)) (((((gMW_r u) (7 : Int32).toNatClampNeg) - a1) - a2) &&& (255 : Int32))) (cwV 1 hts gX7_less_X7_logic rfl rfl rfl (by decide +kernel) ⟨Nat.le_of_ble_eq_true rfl, Nat.le_of_ble_eq_true rfl⟩) ⟨fun a U g mk q => by obtain ⟨q0, q1, qP, qK, qD⟩ := q; exact ⟨q0, q1, qP, va_K.moved (u := U) (U := U.calling g mk a) (Vm.Alike.refl U.vm) qK, qD⟩, va_recv hKc hPc (ci := 7) (q0 := 0) rfl rfl, fun U hU hW => ⟨rfl, by rw [hU], by rw [hU]; exact hPc, va_K.moved hW.alike hKc, hDc.weaken (fun _ _ _ _ => trivial)⟩⟩ rfl rfl hl.1 rfl (lv_room (Nat.le_of_ble_eq_true rfl)) dX7_less_60 ⟨Nat.le_of_ble_eq_true rfl, Nat.le_of_ble_eq_true rfl⟩) hS (fun q _ h => hFc q h) hFc (fun u9 t H1 locs ht hvm hw hB hz1 hk1 hS => ?_)
      subst hw
      obtain ⟨hP1, hK1, hD1⟩ := hB
      rw [ht] at hP1
      obtain ⟨hP, hD⟩ := jM_M hP hD hk1 hFc hP1 hD1
      clear hPc hDc hKc hFc hz1 hk1 hP1 hK1 hD1 ht hvm
      generalize H1 = H at hP hS ⊢
      refine lv_iload_n hx hb dX7_less_63 rfl (lv_at hl 3 rfl) ?_
      refine lv_sipush (v := 255) hx hb dX7_less_64 (by decide) ?_
      refine lv_iand hx hb dX7_less_67 ?_
      exact W.iret (v := (((((gMW_r u) (7 : Int32).toNatClampNeg) - a1) - a2) &&& (255 : Int32))) hx hb hr (fun t ht hW => ⟨⟨(((((gMW_r u) (7 : Int32).toNatClampNeg) - a1) - a2) &&& (255 : Int32)), (f_X7_logic (sMW_c (sMW_h u (if (((((gMW_r u) (7 : Int32).toNatClampNeg) &&& (15 : Int32)) - (a1 &&& (15 : Int32))) - a2) < (0 : Int32) then false else true : Bool)) (if (0 : Int32) ≤ ((((gMW_r u) (7 : Int32).toNatClampNeg) - a1) - a2) then false else true : Bool)) (((((gMW_r u) (7 : Int32).toNatClampNeg) - a1) - a2) &&& (255 : Int32))), rfl, ⟨rfl, rfl⟩, by rw [ht]; exact hP, va_K.moved hW.alike hK, hD⟩, hS.F ht⟩) hS.2.2 dX7_less_68
    · skip
      refine lv_if_ge (tgt := 50) hx hb dX7_less_43 (by decide) (fun c3 => ?_) (fun c3 => ?_)
      · skip
        refine lv_iconst (v := 0) hx hb dX7_less_50 (by decide) ?_
        exact hJ2 false _ _ _ (by simp only [if_pos c3]) hP hS (lv_sub hl [0, 1, 2, 3] rfl)
      · skip
        refine lv_iconst (v := 1) hx hb dX7_less_46 (by decide) ?_
        refine lv_goto (tgt := 51) hx hb dX7_less_47 (by decide) ?_
        exact hJ2 true _ _ _ (by simp only [if_neg c3]) hP hS (lv_sub hl [0, 1, 2, 3] rfl)
  · skip
    refine lv_if_lt (tgt := 37) hx hb dX7_less_30 (by decide) (fun c4 => ?_) (fun c4 => ?_)
    · skip
      refine lv_iconst (v := 0) hx hb dX7_less_37 (by decide) ?_
      exact hJ1 false _ _ _ (by simp only [if_pos c4]) hP hS (lv_sub hl [1, 2, 3, 0] rfl)
    · skip
      refine lv_iconst (v := 1) hx hb dX7_less_33 (by decide) ?_
      refine lv_goto (tgt := 38) hx hb dX7_less_34 (by decide) ?_
      exact hJ1 true _ _ _ (by simp only [if_neg c4]) hP hS (lv_sub hl [1, 2, 3, 0] rfl)

def f_X7_reckon (u : MW) (a1 : Int32) (a2 : Int32) : MW := 
  if a1 = 0 then (f_X7_sum_ u a2 0)
  else 
    if a1 = 1 then (f_X7_sum_ u a2 (bI (if (bI (gMW_c u)) = (0 : Int32) then false else true : Bool)))
    else 
      if a1 = 2 then (sMW_r (f_X7_less u a2 0).2 (upd (gMW_r (f_X7_less u a2 0).2) (7 : Int32).toNatClampNeg (f_X7_less u a2 0).1))
      else 
        if a1 = 3 then (sMW_r (f_X7_less u a2 (bI (if (bI (gMW_c u)) = (0 : Int32) then false else true : Bool))).2 (upd (gMW_r (f_X7_less u a2 (bI (if (bI (gMW_c u)) = (0 : Int32) then false else true : Bool))).2) (7 : Int32).toNatClampNeg (f_X7_less u a2 (bI (if (bI (gMW_c u)) = (0 : Int32) then false else true : Bool))).1))
        else 
          if a1 = 4 then (f_X7_logic (sMW_h (sMW_c (sMW_r u (upd (gMW_r u) (7 : Int32).toNatClampNeg (if a1 = (4 : Int32) then (((gMW_r u) (7 : Int32).toNatClampNeg) &&& a2) else (if a1 = (5 : Int32) then (((gMW_r u) (7 : Int32).toNatClampNeg) ^^^ a2) else (((gMW_r u) (7 : Int32).toNatClampNeg) ||| a2) : Int32) : Int32))) false) (if a1 = (4 : Int32) then (if ((((gMW_r u) (7 : Int32).toNatClampNeg) ||| a2) &&& (8 : Int32)) = (0 : Int32) then false else true : Bool) else false : Bool)) ((gMW_r (sMW_h (sMW_c (sMW_r u (upd (gMW_r u) (7 : Int32).toNatClampNeg (if a1 = (4 : Int32) then (((gMW_r u) (7 : Int32).toNatClampNeg) &&& a2) else (if a1 = (5 : Int32) then (((gMW_r u) (7 : Int32).toNatClampNeg) ^^^ a2) else (((gMW_r u) (7 : Int32).toNatClampNeg) ||| a2) : Int32) : Int32))) false) (if a1 = (4 : Int32) then (if ((((gMW_r u) (7 : Int32).toNatClampNeg) ||| a2) &&& (8 : Int32)) = (0 : Int32) then false else true : Bool) else false : Bool))) (7 : Int32).toNatClampNeg))
          else 
            if a1 = 5 then (f_X7_logic (sMW_h (sMW_c (sMW_r u (upd (gMW_r u) (7 : Int32).toNatClampNeg (if a1 = (4 : Int32) then (((gMW_r u) (7 : Int32).toNatClampNeg) &&& a2) else (if a1 = (5 : Int32) then (((gMW_r u) (7 : Int32).toNatClampNeg) ^^^ a2) else (((gMW_r u) (7 : Int32).toNatClampNeg) ||| a2) : Int32) : Int32))) false) (if a1 = (4 : Int32) then (if ((((gMW_r u) (7 : Int32).toNatClampNeg) ||| a2) &&& (8 : Int32)) = (0 : Int32) then false else true : Bool) else false : Bool)) ((gMW_r (sMW_h (sMW_c (sMW_r u (upd (gMW_r u) (7 : Int32).toNatClampNeg (if a1 = (4 : Int32) then (((gMW_r u) (7 : Int32).toNatClampNeg) &&& a2) else (if a1 = (5 : Int32) then (((gMW_r u) (7 : Int32).toNatClampNeg) ^^^ a2) else (((gMW_r u) (7 : Int32).toNatClampNeg) ||| a2) : Int32) : Int32))) false) (if a1 = (4 : Int32) then (if ((((gMW_r u) (7 : Int32).toNatClampNeg) ||| a2) &&& (8 : Int32)) = (0 : Int32) then false else true : Bool) else false : Bool))) (7 : Int32).toNatClampNeg))
            else 
              if a1 = 6 then (f_X7_logic (sMW_h (sMW_c (sMW_r u (upd (gMW_r u) (7 : Int32).toNatClampNeg (if a1 = (4 : Int32) then (((gMW_r u) (7 : Int32).toNatClampNeg) &&& a2) else (if a1 = (5 : Int32) then (((gMW_r u) (7 : Int32).toNatClampNeg) ^^^ a2) else (((gMW_r u) (7 : Int32).toNatClampNeg) ||| a2) : Int32) : Int32))) false) (if a1 = (4 : Int32) then (if ((((gMW_r u) (7 : Int32).toNatClampNeg) ||| a2) &&& (8 : Int32)) = (0 : Int32) then false else true : Bool) else false : Bool)) ((gMW_r (sMW_h (sMW_c (sMW_r u (upd (gMW_r u) (7 : Int32).toNatClampNeg (if a1 = (4 : Int32) then (((gMW_r u) (7 : Int32).toNatClampNeg) &&& a2) else (if a1 = (5 : Int32) then (((gMW_r u) (7 : Int32).toNatClampNeg) ^^^ a2) else (((gMW_r u) (7 : Int32).toNatClampNeg) ||| a2) : Int32) : Int32))) false) (if a1 = (4 : Int32) then (if ((((gMW_r u) (7 : Int32).toNatClampNeg) ||| a2) &&& (8 : Int32)) = (0 : Int32) then false else true : Bool) else false : Bool))) (7 : Int32).toNatClampNeg))
              else 
                if a1 = 7 then (f_X7_less u a2 0).2
                else (f_X7_logic (sMW_h (sMW_c (sMW_r u (upd (gMW_r u) (7 : Int32).toNatClampNeg (if a1 = (4 : Int32) then (((gMW_r u) (7 : Int32).toNatClampNeg) &&& a2) else (if a1 = (5 : Int32) then (((gMW_r u) (7 : Int32).toNatClampNeg) ^^^ a2) else (((gMW_r u) (7 : Int32).toNatClampNeg) ||| a2) : Int32) : Int32))) false) (if a1 = (4 : Int32) then (if ((((gMW_r u) (7 : Int32).toNatClampNeg) ||| a2) &&& (8 : Int32)) = (0 : Int32) then false else true : Bool) else false : Bool)) ((gMW_r (sMW_h (sMW_c (sMW_r u (upd (gMW_r u) (7 : Int32).toNatClampNeg (if a1 = (4 : Int32) then (((gMW_r u) (7 : Int32).toNatClampNeg) &&& a2) else (if a1 = (5 : Int32) then (((gMW_r u) (7 : Int32).toNatClampNeg) ^^^ a2) else (((gMW_r u) (7 : Int32).toNatClampNeg) ||| a2) : Int32) : Int32))) false) (if a1 = (4 : Int32) then (if ((((gMW_r u) (7 : Int32).toNatClampNeg) ||| a2) &&& (8 : Int32)) = (0 : Int32) then false else true : Bool) else false : Bool))) (7 : Int32).toNatClampNeg))
theorem qX7_reckon_0 : Cond.fieldLink RX7 16 "DiskMachineModel" "\x72" "[I" ∈ wsX7_reckon := by decide +kernel
theorem qX7_reckon_1 : Cond.fieldLink RX7 80 "DiskMachineModel" "carry" "Z" ∈ wsX7_reckon := by decide +kernel
theorem qX7_reckon_2 : Cond.fieldLink RX7 74 "DiskMachineModel" "half" "Z" ∈ wsX7_reckon := by decide +kernel
theorem iX7_reckon_X7 : ∀ w ∈ wsX70, w ∈ wsX7_reckon := by decide +kernel
set_option maxHeartbeats 4000000 in
set_option maxRecDepth 100000 in
theorem k_X7_reckon (l : Launch) (dC : Nat → ClassId) (dI : Nat → Nat → Nat) (cI : ClassId) (mO memA dskA rgA inA outA : Nat) (sz : Nat) (u : MW) (a1 : Int32) (a2 : Int32) : Met l yX7_reckon wsX7_reckon ({ frames := 2, cells := 0, slots := 0, locals := 46 }) (va_Pc [.ref mO, .int a1, .int a2] (wB dC dI [(cI, .int)] sz (wM cI mO memA dskA rgA inA outA u))) (va_Qv (fun u' : MW => u' = (f_X7_reckon u a1 a2)) (fun u' => wE dC dI [(cI, .int)] (va_A (wM cI mO memA dskA rgA inA outA u) sz) (wM cI mO memA dskA rgA inA outA u')) (va_A (wM cI mO memA dskA rgA inA outA u) sz)) 0 0 (va_A (wM cI mO memA dskA rgA inA outA u) sz) := by
  refine Met.ofW (cc := cX7_reckon) (maxL := 6) (ret := none) (by decide) rfl ?_
  intro p e s m args below meth c s₁ B hml hv
  obtain ⟨rfl, hsz, hP, hK, hD0⟩ := hv
  have hx := B.exec
  have hb := B.bytes
  have hr := B.returns
  have hts := atoms_spec (ws := wsX7_reckon) B.pre
  have hown : s.vm.findClass RX7 = some m.cls := findClass_of_methodNamed B.named
  have hlocks := B.notSynchronized
  subst hsz
  have hD := hD0.self (sz := s.heap.size)
  generalize hAe : va_A (wM cI mO memA dskA rgA inA outA u) s.heap.size = A at hD ⊢
  have hA : ∀ q : Nat, s.heap.size ≤ q → A q := fun q h => by rw [← hAe]; exact Or.inr h
  have hS : va_S A s.heap s.heap [] := va_S.rf
  have hP : va_P (dC, dI) vwCl (wM cI mO memA dskA rgA inA outA u) s.heap := hP
  clear hAe hD0
  have hl := lv_entry ([.ref mO, .int a1, .int a2]) (n := 6) (Nat.le_of_ble_eq_true rfl)
  rw [lg_entry_eq]
  generalize (lg_sl ([.ref mO, .int a1, .int a2]) ++ List.replicate (6 - (lg_sl ([.ref mO, .int a1, .int a2])).length) Slot.unset).toArray = ls at hl ⊢
  have hl : lv_has ls 6 [(0, .ref mO), (1, .int a1), (2, .int a2)] := hl
  refine jn_H hP hS (fun H locs hP hS => ?_)
  refine lv_aload_n hx hb dX7_reckon_0 rfl (lv_at hl 0 rfl) ?_
  refine va_get (D := (dC, dI)) (ci := 7) (v := .ref rgA) (C := RX7) (T := TX7) (N := 30) hx hb hts iX7_reckon_X7 hown hK hP 0 rfl rfl 3 (by decide) (hts _ qX7_reckon_0) (fun _ h9 => h9) rfl dX7_reckon_1 ?_
  refine lv_bipush (v := 7) hx hb dX7_reckon_4 (by decide) ?_
  refine va_iald (f := (gMW_r u)) hx hb hK hP 3 0 rfl rfl (ix_lit (by decide)) dX7_reckon_6 ?_
  refine lv_istore_n (lv' := [(3, .int ((gMW_r u) (7 : Int32).toNatClampNeg)), (0, .ref mO), (1, .int a1), (2, .int a2)]) hx hb dX7_reckon_7 rfl hl (by decide) rfl (fun ls hl => ?_)
  refine lv_aload_n hx hb dX7_reckon_8 rfl (lv_at hl 1 rfl) ?_
  refine va_get (D := (dC, dI)) (ci := 7) (v := .int (bI (gMW_c u))) (C := RX7) (T := TX7) (N := 30) hx hb hts iX7_reckon_X7 hown hK hP 0 rfl rfl 8 (by decide) (hts _ qX7_reckon_1) (fun _ h9 => h9) rfl dX7_reckon_9 ?_
  refine jn_b (D := (dC, dI)) (cl := vwCl) (ws := (wM cI mO memA dskA rgA inA outA u)) (A := A) (H0 := s.heap) (nL := 6) 20 (if (bI (gMW_c u)) = (0 : Int32) then false else true : Bool) [(0, .ref mO), (1, .int a1), (2, .int a2), (3, .int ((gMW_r u) (7 : Int32).toNatClampNeg))] [] (fun H locs ls hP hS hl => ?_) (fun hJ1 => ?_)
  · skip
    refine lv_istore (lv' := [(4, .int (bI (if (bI (gMW_c u)) = (0 : Int32) then false else true : Bool))), (0, .ref mO), (1, .int a1), (2, .int a2), (3, .int ((gMW_r u) (7 : Int32).toNatClampNeg))]) hx hb dX7_reckon_20 hl (by decide) rfl (fun ls hl => ?_)
    refine lv_iload_n hx hb dX7_reckon_22 rfl (lv_at hl 2 rfl) ?_
    by_cases c2 : a1 = 0
    · refine tb_in (k := 0) (off := 45) (tgt := 68) hx hb dX7_reckon_23 c2 (by decide) (by decide) (by decide) (by decide) ?_
      refine lv_aload_n hx hb dX7_reckon_68 rfl (lv_at hl 1 rfl) ?_
      refine lv_iload_n hx hb dX7_reckon_69 rfl (lv_at hl 3 rfl) ?_
      refine lv_iconst (v := 0) hx hb dX7_reckon_70 (by decide) ?_
      obtain ⟨hPc, hDc, hFc⟩ := xM_M hP hD hS hA
      have hKc := hK.sub (tys' := [(cI, .int)]) [0] rfl
      refine va_callv (va_runV (As := [.int a2, .int 0]) (rest := []) ⟨hx, hb, hml, hown, hts⟩ (k_X7_sum_ l dC dI cI mO memA dskA rgA inA outA H.size u a2 0) (cwV 2 hts gX7_reckon_X7_sum_ rfl rfl rfl (by decide +kernel) ⟨Nat.le_of_ble_eq_true rfl, Nat.le_of_ble_eq_true rfl⟩) ⟨fun a U g mk q => by obtain ⟨q0, q1, qP, qK, qD⟩ := q; exact ⟨q0, q1, qP, va_K.moved (u := U) (U := U.calling g mk a) (Vm.Alike.refl U.vm) qK, qD⟩, va_recv hKc hPc (ci := 7) (q0 := 0) rfl rfl, fun U hU hW => ⟨rfl, by rw [hU], by rw [hU]; exact hPc, va_K.moved hW.alike hKc, hDc.weaken (fun _ _ _ _ => trivial)⟩⟩ rfl rfl hl.1 rfl (lv_room (Nat.le_of_ble_eq_true rfl)) dX7_reckon_71 ⟨Nat.le_of_ble_eq_true rfl, Nat.le_of_ble_eq_true rfl⟩) hS (fun q _ h => hFc q h) hFc (fun u9 t H1 locs ht hvm hw hB hz1 hk1 hS => ?_)
      subst hw
      obtain ⟨hP1, hK1, hD1⟩ := hB
      rw [ht] at hP1
      obtain ⟨hP, hD⟩ := jM_M hP hD hk1 hFc hP1 hD1
      clear hPc hDc hKc hFc hz1 hk1 hP1 hK1 hD1 ht hvm
      generalize H1 = H at hP hS ⊢
      refine lv_goto (tgt := 202) hx hb dX7_reckon_74 (by decide) ?_
      exact W.vret hx hb hr (fun t ht hW => ⟨⟨(f_X7_sum_ u a2 0), rfl, (by simp only [f_X7_reckon, if_pos c2]), by rw [ht]; exact hP, va_K.moved hW.alike hK, hD⟩, hS.F ht⟩) hS.2.2 dX7_reckon_202
    · skip
      by_cases c3 : a1 = 1
      · refine tb_in (k := 1) (off := 54) (tgt := 77) hx hb dX7_reckon_23 c3 (by decide) (by decide) (by decide) (by decide) ?_
        refine lv_aload_n hx hb dX7_reckon_77 rfl (lv_at hl 1 rfl) ?_
        refine lv_iload_n hx hb dX7_reckon_78 rfl (lv_at hl 3 rfl) ?_
        refine lv_iload hx hb dX7_reckon_79 (lv_at hl 0 rfl) ?_
        obtain ⟨hPc, hDc, hFc⟩ := xM_M hP hD hS hA
        have hKc := hK.sub (tys' := [(cI, .int)]) [0] rfl
        refine va_callv (va_runV (As := [.int a2, .int (bI (if (bI (gMW_c u)) = (0 : Int32) then false else true : Bool))]) (rest := []) ⟨hx, hb, hml, hown, hts⟩ (k_X7_sum_ l dC dI cI mO memA dskA rgA inA outA H.size u a2 (bI (if (bI (gMW_c u)) = (0 : Int32) then false else true : Bool))) (cwV 2 hts gX7_reckon_X7_sum_ rfl rfl rfl (by decide +kernel) ⟨Nat.le_of_ble_eq_true rfl, Nat.le_of_ble_eq_true rfl⟩) ⟨fun a U g mk q => by obtain ⟨q0, q1, qP, qK, qD⟩ := q; exact ⟨q0, q1, qP, va_K.moved (u := U) (U := U.calling g mk a) (Vm.Alike.refl U.vm) qK, qD⟩, va_recv hKc hPc (ci := 7) (q0 := 0) rfl rfl, fun U hU hW => ⟨rfl, by rw [hU], by rw [hU]; exact hPc, va_K.moved hW.alike hKc, hDc.weaken (fun _ _ _ _ => trivial)⟩⟩ rfl rfl hl.1 rfl (lv_room (Nat.le_of_ble_eq_true rfl)) dX7_reckon_81 ⟨Nat.le_of_ble_eq_true rfl, Nat.le_of_ble_eq_true rfl⟩) hS (fun q _ h => hFc q h) hFc (fun u9 t H1 locs ht hvm hw hB hz1 hk1 hS => ?_)
        subst hw
        obtain ⟨hP1, hK1, hD1⟩ := hB
        rw [ht] at hP1
        obtain ⟨hP, hD⟩ := jM_M hP hD hk1 hFc hP1 hD1
        clear hPc hDc hKc hFc hz1 hk1 hP1 hK1 hD1 ht hvm
        generalize H1 = H at hP hS ⊢
        refine lv_goto (tgt := 202) hx hb dX7_reckon_84 (by decide) ?_
        exact W.vret hx hb hr (fun t ht hW => ⟨⟨(f_X7_sum_ u a2 (bI (if (bI (gMW_c u)) = (0 : Int32) then false else true : Bool))), rfl, (by simp only [f_X7_reckon, if_neg c2, if_pos c3]), by rw [ht]; exact hP, va_K.moved hW.alike hK, hD⟩, hS.F ht⟩) hS.2.2 dX7_reckon_202
      · skip
        by_cases c4 : a1 = 2
        · refine tb_in (k := 2) (off := 64) (tgt := 87) hx hb dX7_reckon_23 c4 (by decide) (by decide) (by decide) (by decide) ?_
          refine lv_aload_n hx hb dX7_reckon_87 rfl (lv_at hl 1 rfl) ?_
          refine va_get (D := (dC, dI)) (ci := 7) (v := .ref rgA) (C := RX7) (T := TX7) (N := 30) hx hb hts iX7_reckon_X7 hown hK hP 0 rfl rfl 3 (by decide) (hts _ qX7_reckon_0) (fun _ h9 => h9) rfl dX7_reckon_88 ?_
          refine lv_bipush (v := 7) hx hb dX7_reckon_91 (by decide) ?_
          refine lv_aload_n hx hb dX7_reckon_93 rfl (lv_at hl 1 rfl) ?_
          refine lv_iload_n hx hb dX7_reckon_94 rfl (lv_at hl 3 rfl) ?_
          refine lv_iconst (v := 0) hx hb dX7_reckon_95 (by decide) ?_
          obtain ⟨hPc, hDc, hFc⟩ := xM_M hP hD hS hA
          have hKc := hK.sub (tys' := [(cI, .int)]) [0] rfl
          refine va_calli (va_runV (As := [.int a2, .int 0]) (rest := [.int 7, .ref rgA]) ⟨hx, hb, hml, hown, hts⟩ (k_X7_less l dC dI cI mO memA dskA rgA inA outA H.size u a2 0) (cwV 2 hts gX7_reckon_X7_less rfl rfl rfl (by decide +kernel) ⟨Nat.le_of_ble_eq_true rfl, Nat.le_of_ble_eq_true rfl⟩) ⟨fun a U g mk q => by obtain ⟨q0, q1, qP, qK, qD⟩ := q; exact ⟨q0, q1, qP, va_K.moved (u := U) (U := U.calling g mk a) (Vm.Alike.refl U.vm) qK, qD⟩, va_recv hKc hPc (ci := 7) (q0 := 0) rfl rfl, fun U hU hW => ⟨rfl, by rw [hU], by rw [hU]; exact hPc, va_K.moved hW.alike hKc, hDc.weaken (fun _ _ _ _ => trivial)⟩⟩ rfl rfl hl.1 rfl (lv_room (Nat.le_of_ble_eq_true rfl)) dX7_reckon_96 ⟨Nat.le_of_ble_eq_true rfl, Nat.le_of_ble_eq_true rfl⟩) hS (fun q _ h => hFc q h) hFc (fun r9 u9 t H1 locs ht hvm hw hB hz1 hk1 hS => ?_)
          obtain ⟨rfl, rfl⟩ := hw
          obtain ⟨hP1, hK1, hD1⟩ := hB
          rw [ht] at hP1
          obtain ⟨hP, hD⟩ := jM_M hP hD hk1 hFc hP1 hD1
          clear hPc hDc hKc hFc hz1 hk1 hP1 hK1 hD1 ht hvm
          generalize H1 = H at hP hS ⊢
          refine va_iast (f := (gMW_r (f_X7_less u a2 0).2)) hx hb hK hP hD hS 3 0 rfl rfl (ix_lit (by decide)) dX7_reckon_99 (fun H locs hP hD hS => ?_)
          obtain ⟨hP, hD⟩ := aM_rgA hP hD
          refine lv_goto (tgt := 202) hx hb dX7_reckon_100 (by decide) ?_
          exact W.vret hx hb hr (fun t ht hW => ⟨⟨(sMW_r (f_X7_less u a2 0).2 (upd (gMW_r (f_X7_less u a2 0).2) (7 : Int32).toNatClampNeg (f_X7_less u a2 0).1)), rfl, (by simp only [f_X7_reckon, if_neg c2, if_neg c3, if_pos c4]), by rw [ht]; exact hP, va_K.moved hW.alike hK, hD⟩, hS.F ht⟩) hS.2.2 dX7_reckon_202
        · skip
          by_cases c5 : a1 = 3
          · refine tb_in (k := 3) (off := 80) (tgt := 103) hx hb dX7_reckon_23 c5 (by decide) (by decide) (by decide) (by decide) ?_
            refine lv_aload_n hx hb dX7_reckon_103 rfl (lv_at hl 1 rfl) ?_
            refine va_get (D := (dC, dI)) (ci := 7) (v := .ref rgA) (C := RX7) (T := TX7) (N := 30) hx hb hts iX7_reckon_X7 hown hK hP 0 rfl rfl 3 (by decide) (hts _ qX7_reckon_0) (fun _ h9 => h9) rfl dX7_reckon_104 ?_
            refine lv_bipush (v := 7) hx hb dX7_reckon_107 (by decide) ?_
            refine lv_aload_n hx hb dX7_reckon_109 rfl (lv_at hl 1 rfl) ?_
            refine lv_iload_n hx hb dX7_reckon_110 rfl (lv_at hl 3 rfl) ?_
            refine lv_iload hx hb dX7_reckon_111 (lv_at hl 0 rfl) ?_
            obtain ⟨hPc, hDc, hFc⟩ := xM_M hP hD hS hA
            have hKc := hK.sub (tys' := [(cI, .int)]) [0] rfl
            refine va_calli (va_runV (As := [.int a2, .int (bI (if (bI (gMW_c u)) = (0 : Int32) then false else true : Bool))]) (rest := [.int 7, .ref rgA]) ⟨hx, hb, hml, hown, hts⟩ (k_X7_less l dC dI cI mO memA dskA rgA inA outA H.size u a2 (bI (if (bI (gMW_c u)) = (0 : Int32) then false else true : Bool))) (cwV 2 hts gX7_reckon_X7_less rfl rfl rfl (by decide +kernel) ⟨Nat.le_of_ble_eq_true rfl, Nat.le_of_ble_eq_true rfl⟩) ⟨fun a U g mk q => by obtain ⟨q0, q1, qP, qK, qD⟩ := q; exact ⟨q0, q1, qP, va_K.moved (u := U) (U := U.calling g mk a) (Vm.Alike.refl U.vm) qK, qD⟩, va_recv hKc hPc (ci := 7) (q0 := 0) rfl rfl, fun U hU hW => ⟨rfl, by rw [hU], by rw [hU]; exact hPc, va_K.moved hW.alike hKc, hDc.weaken (fun _ _ _ _ => trivial)⟩⟩ rfl rfl hl.1 rfl (lv_room (Nat.le_of_ble_eq_true rfl)) dX7_reckon_113 ⟨Nat.le_of_ble_eq_true rfl, Nat.le_of_ble_eq_true rfl⟩) hS (fun q _ h => hFc q h) hFc (fun r9 u9 t H1 locs ht hvm hw hB hz1 hk1 hS => ?_)
            obtain ⟨rfl, rfl⟩ := hw
            obtain ⟨hP1, hK1, hD1⟩ := hB
            rw [ht] at hP1
            obtain ⟨hP, hD⟩ := jM_M hP hD hk1 hFc hP1 hD1
            clear hPc hDc hKc hFc hz1 hk1 hP1 hK1 hD1 ht hvm
            generalize H1 = H at hP hS ⊢
            refine va_iast (f := (gMW_r (f_X7_less u a2 (bI (if (bI (gMW_c u)) = (0 : Int32) then false else true : Bool))).2)) hx hb hK hP hD hS 3 0 rfl rfl (ix_lit (by decide)) dX7_reckon_116 (fun H locs hP hD hS => ?_)
            obtain ⟨hP, hD⟩ := aM_rgA hP hD
            refine lv_goto (tgt := 202) hx hb dX7_reckon_117 (by decide) ?_
            exact W.vret hx hb hr (fun t ht hW => ⟨⟨(sMW_r (f_X7_less u a2 (bI (if (bI (gMW_c u)) = (0 : Int32) then false else true : Bool))).2 (upd (gMW_r (f_X7_less u a2 (bI (if (bI (gMW_c u)) = (0 : Int32) then false else true : Bool))).2) (7 : Int32).toNatClampNeg (f_X7_less u a2 (bI (if (bI (gMW_c u)) = (0 : Int32) then false else true : Bool))).1)), rfl, (by simp only [f_X7_reckon, if_neg c2, if_neg c3, if_neg c4, if_pos c5]), by rw [ht]; exact hP, va_K.moved hW.alike hK, hD⟩, hS.F ht⟩) hS.2.2 dX7_reckon_202
          · skip
            by_cases c6 : a1 = 4
            · refine tb_in (k := 4) (off := 108) (tgt := 131) hx hb dX7_reckon_23 c6 (by decide) (by decide) (by decide) (by decide) ?_
              refine lv_aload_n hx hb dX7_reckon_131 rfl (lv_at hl 1 rfl) ?_
              refine va_get (D := (dC, dI)) (ci := 7) (v := .ref rgA) (C := RX7) (T := TX7) (N := 30) hx hb hts iX7_reckon_X7 hown hK hP 0 rfl rfl 3 (by decide) (hts _ qX7_reckon_0) (fun _ h9 => h9) rfl dX7_reckon_132 ?_
              refine lv_bipush (v := 7) hx hb dX7_reckon_135 (by decide) ?_
              refine lv_iload_n hx hb dX7_reckon_137 rfl (lv_at hl 2 rfl) ?_
              refine lv_iconst (v := 4) hx hb dX7_reckon_138 (by decide) ?_
              refine jn_i (D := (dC, dI)) (cl := vwCl) (ws := (wM cI mO memA dskA rgA inA outA u)) (A := A) (H0 := s.heap) (nL := 6) 162 (if a1 = (4 : Int32) then (((gMW_r u) (7 : Int32).toNatClampNeg) &&& a2) else (if a1 = (5 : Int32) then (((gMW_r u) (7 : Int32).toNatClampNeg) ^^^ a2) else (((gMW_r u) (7 : Int32).toNatClampNeg) ||| a2) : Int32) : Int32) [(0, .ref mO), (1, .int a1), (2, .int a2), (3, .int ((gMW_r u) (7 : Int32).toNatClampNeg)), (4, .int (bI (if (bI (gMW_c u)) = (0 : Int32) then false else true : Bool)))] [.int 7, .ref rgA] (fun H locs ls hP hS hl => ?_) (fun hJ7 => ?_)
              · skip
                refine va_iast (f := (gMW_r u)) hx hb hK hP hD hS 3 0 rfl rfl (ix_lit (by decide)) dX7_reckon_162 (fun H locs hP hD hS => ?_)
                obtain ⟨hP, hD⟩ := aM_rgA hP hD
                refine lv_aload_n hx hb dX7_reckon_163 rfl (lv_at hl 0 rfl) ?_
                refine lv_iconst (v := 0) hx hb dX7_reckon_164 (by decide) ?_
                refine va_put (D := (dC, dI)) (ci := 7) (v := .int (bI false)) (ty := .boolean) (C := RX7) (T := TX7) (N := 30) hx hb hts iX7_reckon_X7 tyX7 tyX7_ok nmX7 hown hK hP hD hS 0 rfl rfl 8 (by decide) (hts _ qX7_reckon_1) (fun _ h9 => h9) rfl (by decide +kernel) (bI_nar false) (bI_fit false) (Nat.le_of_ble_eq_true rfl) dX7_reckon_165 (fun H locs hP hD hS => ?_)
                obtain ⟨hP, hD⟩ := pM_c hP hD
                refine lv_aload_n hx hb dX7_reckon_168 rfl (lv_at hl 0 rfl) ?_
                refine lv_iload_n hx hb dX7_reckon_169 rfl (lv_at hl 1 rfl) ?_
                refine lv_iconst (v := 4) hx hb dX7_reckon_170 (by decide) ?_
                refine jn_b (D := (dC, dI)) (cl := vwCl) (ws := (wM cI mO memA dskA rgA inA outA (sMW_c (sMW_r u (upd (gMW_r u) (7 : Int32).toNatClampNeg (if a1 = (4 : Int32) then (((gMW_r u) (7 : Int32).toNatClampNeg) &&& a2) else (if a1 = (5 : Int32) then (((gMW_r u) (7 : Int32).toNatClampNeg) ^^^ a2) else (((gMW_r u) (7 : Int32).toNatClampNeg) ||| a2) : Int32) : Int32))) false))) (A := A) (H0 := s.heap) (nL := 6) 188 (if a1 = (4 : Int32) then (if ((((gMW_r u) (7 : Int32).toNatClampNeg) ||| a2) &&& (8 : Int32)) = (0 : Int32) then false else true : Bool) else false : Bool) [(0, .ref mO), (1, .int a1), (2, .int a2), (3, .int ((gMW_r u) (7 : Int32).toNatClampNeg)), (4, .int (bI (if (bI (gMW_c u)) = (0 : Int32) then false else true : Bool)))] [.ref mO] (fun H locs ls hP hS hl => ?_) (fun hJ8 => ?_)
                · skip
                  refine va_put (D := (dC, dI)) (ci := 7) (v := .int (bI (if a1 = (4 : Int32) then (if ((((gMW_r u) (7 : Int32).toNatClampNeg) ||| a2) &&& (8 : Int32)) = (0 : Int32) then false else true : Bool) else false : Bool))) (ty := .boolean) (C := RX7) (T := TX7) (N := 30) hx hb hts iX7_reckon_X7 tyX7 tyX7_ok nmX7 hown hK hP hD hS 0 rfl rfl 6 (by decide) (hts _ qX7_reckon_2) (fun _ h9 => h9) rfl (by decide +kernel) (bI_nar (if a1 = (4 : Int32) then (if ((((gMW_r u) (7 : Int32).toNatClampNeg) ||| a2) &&& (8 : Int32)) = (0 : Int32) then false else true : Bool) else false : Bool)) (bI_fit (if a1 = (4 : Int32) then (if ((((gMW_r u) (7 : Int32).toNatClampNeg) ||| a2) &&& (8 : Int32)) = (0 : Int32) then false else true : Bool) else false : Bool)) (Nat.le_of_ble_eq_true rfl) dX7_reckon_188 (fun H locs hP hD hS => ?_)
                  obtain ⟨hP, hD⟩ := pM_h hP hD
                  refine lv_aload_n hx hb dX7_reckon_191 rfl (lv_at hl 0 rfl) ?_
                  refine lv_aload_n hx hb dX7_reckon_192 rfl (lv_at hl 0 rfl) ?_
                  refine va_get (D := (dC, dI)) (ci := 7) (v := .ref rgA) (C := RX7) (T := TX7) (N := 30) hx hb hts iX7_reckon_X7 hown hK hP 0 rfl rfl 3 (by decide) (hts _ qX7_reckon_0) (fun _ h9 => h9) rfl dX7_reckon_193 ?_
                  refine lv_bipush (v := 7) hx hb dX7_reckon_196 (by decide) ?_
                  refine va_iald (f := (gMW_r (sMW_h (sMW_c (sMW_r u (upd (gMW_r u) (7 : Int32).toNatClampNeg (if a1 = (4 : Int32) then (((gMW_r u) (7 : Int32).toNatClampNeg) &&& a2) else (if a1 = (5 : Int32) then (((gMW_r u) (7 : Int32).toNatClampNeg) ^^^ a2) else (((gMW_r u) (7 : Int32).toNatClampNeg) ||| a2) : Int32) : Int32))) false) (if a1 = (4 : Int32) then (if ((((gMW_r u) (7 : Int32).toNatClampNeg) ||| a2) &&& (8 : Int32)) = (0 : Int32) then false else true : Bool) else false : Bool)))) hx hb hK hP 3 0 rfl rfl (ix_lit (by decide)) dX7_reckon_198 ?_
                  obtain ⟨hPc, hDc, hFc⟩ := xM_M hP hD hS hA
                  have hKc := hK.sub (tys' := [(cI, .int)]) [0] rfl
                  refine va_callv (va_runV (As := [.int ((gMW_r (sMW_h (sMW_c (sMW_r u (upd (gMW_r u) (7 : Int32).toNatClampNeg (if a1 = (4 : Int32) then (((gMW_r u) (7 : Int32).toNatClampNeg) &&& a2) else (if a1 = (5 : Int32) then (((gMW_r u) (7 : Int32).toNatClampNeg) ^^^ a2) else (((gMW_r u) (7 : Int32).toNatClampNeg) ||| a2) : Int32) : Int32))) false) (if a1 = (4 : Int32) then (if ((((gMW_r u) (7 : Int32).toNatClampNeg) ||| a2) &&& (8 : Int32)) = (0 : Int32) then false else true : Bool) else false : Bool))) (7 : Int32).toNatClampNeg)]) (rest := []) ⟨hx, hb, hml, hown, hts⟩ (k_X7_logic l dC dI cI mO memA dskA rgA inA outA H.size (sMW_h (sMW_c (sMW_r u (upd (gMW_r u) (7 : Int32).toNatClampNeg (if a1 = (4 : Int32) then (((gMW_r u) (7 : Int32).toNatClampNeg) &&& a2) else (if a1 = (5 : Int32) then (((gMW_r u) (7 : Int32).toNatClampNeg) ^^^ a2) else (((gMW_r u) (7 : Int32).toNatClampNeg) ||| a2) : Int32) : Int32))) false) (if a1 = (4 : Int32) then (if ((((gMW_r u) (7 : Int32).toNatClampNeg) ||| a2) &&& (8 : Int32)) = (0 : Int32) then false else true : Bool) else false : Bool)) ((gMW_r (sMW_h (sMW_c (sMW_r u (upd (gMW_r u) (7 : Int32).toNatClampNeg (if a1 = (4 : Int32) then (((gMW_r u) (7 : Int32).toNatClampNeg) &&& a2) else (if a1 = (5 : Int32) then (((gMW_r u) (7 : Int32).toNatClampNeg) ^^^ a2) else (((gMW_r u) (7 : Int32).toNatClampNeg) ||| a2) : Int32) : Int32))) false) (if a1 = (4 : Int32) then (if ((((gMW_r u) (7 : Int32).toNatClampNeg) ||| a2) &&& (8 : Int32)) = (0 : Int32) then false else true : Bool) else false : Bool))) (7 : Int32).toNatClampNeg)) (cwV 1 hts gX7_reckon_X7_logic rfl rfl rfl (by decide +kernel) ⟨Nat.le_of_ble_eq_true rfl, Nat.le_of_ble_eq_true rfl⟩) ⟨fun a U g mk q => by obtain ⟨q0, q1, qP, qK, qD⟩ := q; exact ⟨q0, q1, qP, va_K.moved (u := U) (U := U.calling g mk a) (Vm.Alike.refl U.vm) qK, qD⟩, va_recv hKc hPc (ci := 7) (q0 := 0) rfl rfl, fun U hU hW => ⟨rfl, by rw [hU], by rw [hU]; exact hPc, va_K.moved hW.alike hKc, hDc.weaken (fun _ _ _ _ => trivial)⟩⟩ rfl rfl hl.1 rfl (lv_room (Nat.le_of_ble_eq_true rfl)) dX7_reckon_199 ⟨Nat.le_of_ble_eq_true rfl, Nat.le_of_ble_eq_true rfl⟩) hS (fun q _ h => hFc q h) hFc (fun u9 t H1 locs ht hvm hw hB hz1 hk1 hS => ?_)
                  subst hw
                  obtain ⟨hP1, hK1, hD1⟩ := hB
                  rw [ht] at hP1
                  obtain ⟨hP, hD⟩ := jM_M hP hD hk1 hFc hP1 hD1
                  clear hPc hDc hKc hFc hz1 hk1 hP1 hK1 hD1 ht hvm
                  generalize H1 = H at hP hS ⊢
                  exact W.vret hx hb hr (fun t ht hW => ⟨⟨(f_X7_logic (sMW_h (sMW_c (sMW_r u (upd (gMW_r u) (7 : Int32).toNatClampNeg (if a1 = (4 : Int32) then (((gMW_r u) (7 : Int32).toNatClampNeg) &&& a2) else (if a1 = (5 : Int32) then (((gMW_r u) (7 : Int32).toNatClampNeg) ^^^ a2) else (((gMW_r u) (7 : Int32).toNatClampNeg) ||| a2) : Int32) : Int32))) false) (if a1 = (4 : Int32) then (if ((((gMW_r u) (7 : Int32).toNatClampNeg) ||| a2) &&& (8 : Int32)) = (0 : Int32) then false else true : Bool) else false : Bool)) ((gMW_r (sMW_h (sMW_c (sMW_r u (upd (gMW_r u) (7 : Int32).toNatClampNeg (if a1 = (4 : Int32) then (((gMW_r u) (7 : Int32).toNatClampNeg) &&& a2) else (if a1 = (5 : Int32) then (((gMW_r u) (7 : Int32).toNatClampNeg) ^^^ a2) else (((gMW_r u) (7 : Int32).toNatClampNeg) ||| a2) : Int32) : Int32))) false) (if a1 = (4 : Int32) then (if ((((gMW_r u) (7 : Int32).toNatClampNeg) ||| a2) &&& (8 : Int32)) = (0 : Int32) then false else true : Bool) else false : Bool))) (7 : Int32).toNatClampNeg)), rfl, (by simp only [f_X7_reckon, if_neg c2, if_neg c3, if_neg c4, if_neg c5, if_pos c6]), by rw [ht]; exact hP, va_K.moved hW.alike hK, hD⟩, hS.F ht⟩) hS.2.2 dX7_reckon_202
                · skip
                  refine lv_icmp_ne (tgt := 187) hx hb dX7_reckon_171 (by decide) (fun c9 => ?_) (fun c9 => ?_)
                  · skip
                    refine lv_iconst (v := 0) hx hb dX7_reckon_187 (by decide) ?_
                    exact hJ8 false _ _ _ (by simp only [if_neg c9]) hP hS (lv_sub hl [0, 1, 2, 3, 4] rfl)
                  · skip
                    refine lv_iload_n hx hb dX7_reckon_174 rfl (lv_at hl 3 rfl) ?_
                    refine lv_iload_n hx hb dX7_reckon_175 rfl (lv_at hl 2 rfl) ?_
                    refine lv_ior hx hb dX7_reckon_176 ?_
                    refine lv_bipush (v := 8) hx hb dX7_reckon_177 (by decide) ?_
                    refine lv_iand hx hb dX7_reckon_179 ?_
                    refine jn_b (D := (dC, dI)) (cl := vwCl) (ws := (wM cI mO memA dskA rgA inA outA (sMW_c (sMW_r u (upd (gMW_r u) (7 : Int32).toNatClampNeg (if a1 = (4 : Int32) then (((gMW_r u) (7 : Int32).toNatClampNeg) &&& a2) else (if a1 = (5 : Int32) then (((gMW_r u) (7 : Int32).toNatClampNeg) ^^^ a2) else (((gMW_r u) (7 : Int32).toNatClampNeg) ||| a2) : Int32) : Int32))) false))) (A := A) (H0 := s.heap) (nL := 6) 188 (if ((((gMW_r u) (7 : Int32).toNatClampNeg) ||| a2) &&& (8 : Int32)) = (0 : Int32) then false else true : Bool) [(0, .ref mO), (1, .int a1), (2, .int a2), (3, .int ((gMW_r u) (7 : Int32).toNatClampNeg)), (4, .int (bI (if (bI (gMW_c u)) = (0 : Int32) then false else true : Bool)))] [.ref mO] (fun H locs ls hP hS hl => ?_) (fun hJ10 => ?_)
                    · skip
                      exact hJ8 (if ((((gMW_r u) (7 : Int32).toNatClampNeg) ||| a2) &&& (8 : Int32)) = (0 : Int32) then false else true : Bool) _ _ _ (by simp only [if_pos c9]) hP hS (lv_sub hl [0, 1, 2, 3, 4] rfl)
                    · skip
                      refine lv_if_eq (tgt := 187) hx hb dX7_reckon_180 (by decide) (fun c11 => ?_) (fun c11 => ?_)
                      · skip
                        refine lv_iconst (v := 0) hx hb dX7_reckon_187 (by decide) ?_
                        exact hJ10 false _ _ _ (by simp only [if_pos c11]) hP hS (lv_sub hl [0, 1, 2, 3, 4] rfl)
                      · skip
                        refine lv_iconst (v := 1) hx hb dX7_reckon_183 (by decide) ?_
                        refine lv_goto (tgt := 188) hx hb dX7_reckon_184 (by decide) ?_
                        exact hJ10 true _ _ _ (by simp only [if_neg c11]) hP hS (lv_sub hl [0, 1, 2, 3, 4] rfl)
              · skip
                refine lv_icmp_ne (tgt := 148) hx hb dX7_reckon_139 (by decide) (fun c12 => ?_) (fun c12 => ?_)
                · skip
                  refine lv_iload_n hx hb dX7_reckon_148 rfl (lv_at hl 2 rfl) ?_
                  refine lv_iconst (v := 5) hx hb dX7_reckon_149 (by decide) ?_
                  refine jn_i (D := (dC, dI)) (cl := vwCl) (ws := (wM cI mO memA dskA rgA inA outA u)) (A := A) (H0 := s.heap) (nL := 6) 162 (if a1 = (5 : Int32) then (((gMW_r u) (7 : Int32).toNatClampNeg) ^^^ a2) else (((gMW_r u) (7 : Int32).toNatClampNeg) ||| a2) : Int32) [(0, .ref mO), (1, .int a1), (2, .int a2), (3, .int ((gMW_r u) (7 : Int32).toNatClampNeg)), (4, .int (bI (if (bI (gMW_c u)) = (0 : Int32) then false else true : Bool)))] [.int 7, .ref rgA] (fun H locs ls hP hS hl => ?_) (fun hJ13 => ?_)
                  · skip
                    exact hJ7 (if a1 = (5 : Int32) then (((gMW_r u) (7 : Int32).toNatClampNeg) ^^^ a2) else (((gMW_r u) (7 : Int32).toNatClampNeg) ||| a2) : Int32) _ _ _ (by simp only [if_neg c12]) hP hS (lv_sub hl [0, 1, 2, 3, 4] rfl)
                  · skip
                    refine lv_icmp_ne (tgt := 159) hx hb dX7_reckon_150 (by decide) (fun c14 => ?_) (fun c14 => ?_)
                    · skip
                      refine lv_iload_n hx hb dX7_reckon_159 rfl (lv_at hl 4 rfl) ?_
                      refine lv_iload_n hx hb dX7_reckon_160 rfl (lv_at hl 3 rfl) ?_
                      refine lv_ior hx hb dX7_reckon_161 ?_
                      exact hJ13 (((gMW_r u) (7 : Int32).toNatClampNeg) ||| a2) _ _ _ (by simp only [if_neg c14]) hP hS (lv_sub hl [1, 2, 3, 4, 0] rfl)
                    · skip
                      refine lv_iload_n hx hb dX7_reckon_153 rfl (lv_at hl 4 rfl) ?_
                      refine lv_iload_n hx hb dX7_reckon_154 rfl (lv_at hl 3 rfl) ?_
                      refine lv_ixor hx hb dX7_reckon_155 ?_
                      refine lv_goto (tgt := 162) hx hb dX7_reckon_156 (by decide) ?_
                      exact hJ13 (((gMW_r u) (7 : Int32).toNatClampNeg) ^^^ a2) _ _ _ (by simp only [if_pos c14]) hP hS (lv_sub hl [1, 2, 3, 4, 0] rfl)
                · skip
                  refine lv_iload_n hx hb dX7_reckon_142 rfl (lv_at hl 4 rfl) ?_
                  refine lv_iload_n hx hb dX7_reckon_143 rfl (lv_at hl 3 rfl) ?_
                  refine lv_iand hx hb dX7_reckon_144 ?_
                  refine lv_goto (tgt := 162) hx hb dX7_reckon_145 (by decide) ?_
                  exact hJ7 (((gMW_r u) (7 : Int32).toNatClampNeg) &&& a2) _ _ _ (by simp only [if_pos c12]) hP hS (lv_sub hl [1, 2, 3, 4, 0] rfl)
            · skip
              by_cases c15 : a1 = 5
              · refine tb_in (k := 5) (off := 108) (tgt := 131) hx hb dX7_reckon_23 c15 (by decide) (by decide) (by decide) (by decide) ?_
                refine lv_aload_n hx hb dX7_reckon_131 rfl (lv_at hl 1 rfl) ?_
                refine va_get (D := (dC, dI)) (ci := 7) (v := .ref rgA) (C := RX7) (T := TX7) (N := 30) hx hb hts iX7_reckon_X7 hown hK hP 0 rfl rfl 3 (by decide) (hts _ qX7_reckon_0) (fun _ h9 => h9) rfl dX7_reckon_132 ?_
                refine lv_bipush (v := 7) hx hb dX7_reckon_135 (by decide) ?_
                refine lv_iload_n hx hb dX7_reckon_137 rfl (lv_at hl 2 rfl) ?_
                refine lv_iconst (v := 4) hx hb dX7_reckon_138 (by decide) ?_
                refine jn_i (D := (dC, dI)) (cl := vwCl) (ws := (wM cI mO memA dskA rgA inA outA u)) (A := A) (H0 := s.heap) (nL := 6) 162 (if a1 = (4 : Int32) then (((gMW_r u) (7 : Int32).toNatClampNeg) &&& a2) else (if a1 = (5 : Int32) then (((gMW_r u) (7 : Int32).toNatClampNeg) ^^^ a2) else (((gMW_r u) (7 : Int32).toNatClampNeg) ||| a2) : Int32) : Int32) [(0, .ref mO), (1, .int a1), (2, .int a2), (3, .int ((gMW_r u) (7 : Int32).toNatClampNeg)), (4, .int (bI (if (bI (gMW_c u)) = (0 : Int32) then false else true : Bool)))] [.int 7, .ref rgA] (fun H locs ls hP hS hl => ?_) (fun hJ16 => ?_)
                · skip
                  refine va_iast (f := (gMW_r u)) hx hb hK hP hD hS 3 0 rfl rfl (ix_lit (by decide)) dX7_reckon_162 (fun H locs hP hD hS => ?_)
                  obtain ⟨hP, hD⟩ := aM_rgA hP hD
                  refine lv_aload_n hx hb dX7_reckon_163 rfl (lv_at hl 0 rfl) ?_
                  refine lv_iconst (v := 0) hx hb dX7_reckon_164 (by decide) ?_
                  refine va_put (D := (dC, dI)) (ci := 7) (v := .int (bI false)) (ty := .boolean) (C := RX7) (T := TX7) (N := 30) hx hb hts iX7_reckon_X7 tyX7 tyX7_ok nmX7 hown hK hP hD hS 0 rfl rfl 8 (by decide) (hts _ qX7_reckon_1) (fun _ h9 => h9) rfl (by decide +kernel) (bI_nar false) (bI_fit false) (Nat.le_of_ble_eq_true rfl) dX7_reckon_165 (fun H locs hP hD hS => ?_)
                  obtain ⟨hP, hD⟩ := pM_c hP hD
                  refine lv_aload_n hx hb dX7_reckon_168 rfl (lv_at hl 0 rfl) ?_
                  refine lv_iload_n hx hb dX7_reckon_169 rfl (lv_at hl 1 rfl) ?_
                  refine lv_iconst (v := 4) hx hb dX7_reckon_170 (by decide) ?_
                  refine jn_b (D := (dC, dI)) (cl := vwCl) (ws := (wM cI mO memA dskA rgA inA outA (sMW_c (sMW_r u (upd (gMW_r u) (7 : Int32).toNatClampNeg (if a1 = (4 : Int32) then (((gMW_r u) (7 : Int32).toNatClampNeg) &&& a2) else (if a1 = (5 : Int32) then (((gMW_r u) (7 : Int32).toNatClampNeg) ^^^ a2) else (((gMW_r u) (7 : Int32).toNatClampNeg) ||| a2) : Int32) : Int32))) false))) (A := A) (H0 := s.heap) (nL := 6) 188 (if a1 = (4 : Int32) then (if ((((gMW_r u) (7 : Int32).toNatClampNeg) ||| a2) &&& (8 : Int32)) = (0 : Int32) then false else true : Bool) else false : Bool) [(0, .ref mO), (1, .int a1), (2, .int a2), (3, .int ((gMW_r u) (7 : Int32).toNatClampNeg)), (4, .int (bI (if (bI (gMW_c u)) = (0 : Int32) then false else true : Bool)))] [.ref mO] (fun H locs ls hP hS hl => ?_) (fun hJ17 => ?_)
                  · skip
                    refine va_put (D := (dC, dI)) (ci := 7) (v := .int (bI (if a1 = (4 : Int32) then (if ((((gMW_r u) (7 : Int32).toNatClampNeg) ||| a2) &&& (8 : Int32)) = (0 : Int32) then false else true : Bool) else false : Bool))) (ty := .boolean) (C := RX7) (T := TX7) (N := 30) hx hb hts iX7_reckon_X7 tyX7 tyX7_ok nmX7 hown hK hP hD hS 0 rfl rfl 6 (by decide) (hts _ qX7_reckon_2) (fun _ h9 => h9) rfl (by decide +kernel) (bI_nar (if a1 = (4 : Int32) then (if ((((gMW_r u) (7 : Int32).toNatClampNeg) ||| a2) &&& (8 : Int32)) = (0 : Int32) then false else true : Bool) else false : Bool)) (bI_fit (if a1 = (4 : Int32) then (if ((((gMW_r u) (7 : Int32).toNatClampNeg) ||| a2) &&& (8 : Int32)) = (0 : Int32) then false else true : Bool) else false : Bool)) (Nat.le_of_ble_eq_true rfl) dX7_reckon_188 (fun H locs hP hD hS => ?_)
                    obtain ⟨hP, hD⟩ := pM_h hP hD
                    refine lv_aload_n hx hb dX7_reckon_191 rfl (lv_at hl 0 rfl) ?_
                    refine lv_aload_n hx hb dX7_reckon_192 rfl (lv_at hl 0 rfl) ?_
                    refine va_get (D := (dC, dI)) (ci := 7) (v := .ref rgA) (C := RX7) (T := TX7) (N := 30) hx hb hts iX7_reckon_X7 hown hK hP 0 rfl rfl 3 (by decide) (hts _ qX7_reckon_0) (fun _ h9 => h9) rfl dX7_reckon_193 ?_
                    refine lv_bipush (v := 7) hx hb dX7_reckon_196 (by decide) ?_
                    refine va_iald (f := (gMW_r (sMW_h (sMW_c (sMW_r u (upd (gMW_r u) (7 : Int32).toNatClampNeg (if a1 = (4 : Int32) then (((gMW_r u) (7 : Int32).toNatClampNeg) &&& a2) else (if a1 = (5 : Int32) then (((gMW_r u) (7 : Int32).toNatClampNeg) ^^^ a2) else (((gMW_r u) (7 : Int32).toNatClampNeg) ||| a2) : Int32) : Int32))) false) (if a1 = (4 : Int32) then (if ((((gMW_r u) (7 : Int32).toNatClampNeg) ||| a2) &&& (8 : Int32)) = (0 : Int32) then false else true : Bool) else false : Bool)))) hx hb hK hP 3 0 rfl rfl (ix_lit (by decide)) dX7_reckon_198 ?_
                    obtain ⟨hPc, hDc, hFc⟩ := xM_M hP hD hS hA
                    have hKc := hK.sub (tys' := [(cI, .int)]) [0] rfl
                    refine va_callv (va_runV (As := [.int ((gMW_r (sMW_h (sMW_c (sMW_r u (upd (gMW_r u) (7 : Int32).toNatClampNeg (if a1 = (4 : Int32) then (((gMW_r u) (7 : Int32).toNatClampNeg) &&& a2) else (if a1 = (5 : Int32) then (((gMW_r u) (7 : Int32).toNatClampNeg) ^^^ a2) else (((gMW_r u) (7 : Int32).toNatClampNeg) ||| a2) : Int32) : Int32))) false) (if a1 = (4 : Int32) then (if ((((gMW_r u) (7 : Int32).toNatClampNeg) ||| a2) &&& (8 : Int32)) = (0 : Int32) then false else true : Bool) else false : Bool))) (7 : Int32).toNatClampNeg)]) (rest := []) ⟨hx, hb, hml, hown, hts⟩ (k_X7_logic l dC dI cI mO memA dskA rgA inA outA H.size (sMW_h (sMW_c (sMW_r u (upd (gMW_r u) (7 : Int32).toNatClampNeg (if a1 = (4 : Int32) then (((gMW_r u) (7 : Int32).toNatClampNeg) &&& a2) else (if a1 = (5 : Int32) then (((gMW_r u) (7 : Int32).toNatClampNeg) ^^^ a2) else (((gMW_r u) (7 : Int32).toNatClampNeg) ||| a2) : Int32) : Int32))) false) (if a1 = (4 : Int32) then (if ((((gMW_r u) (7 : Int32).toNatClampNeg) ||| a2) &&& (8 : Int32)) = (0 : Int32) then false else true : Bool) else false : Bool)) ((gMW_r (sMW_h (sMW_c (sMW_r u (upd (gMW_r u) (7 : Int32).toNatClampNeg (if a1 = (4 : Int32) then (((gMW_r u) (7 : Int32).toNatClampNeg) &&& a2) else (if a1 = (5 : Int32) then (((gMW_r u) (7 : Int32).toNatClampNeg) ^^^ a2) else (((gMW_r u) (7 : Int32).toNatClampNeg) ||| a2) : Int32) : Int32))) false) (if a1 = (4 : Int32) then (if ((((gMW_r u) (7 : Int32).toNatClampNeg) ||| a2) &&& (8 : Int32)) = (0 : Int32) then false else true : Bool) else false : Bool))) (7 : Int32).toNatClampNeg)) (cwV 1 hts gX7_reckon_X7_logic rfl rfl rfl (by decide +kernel) ⟨Nat.le_of_ble_eq_true rfl, Nat.le_of_ble_eq_true rfl⟩) ⟨fun a U g mk q => by obtain ⟨q0, q1, qP, qK, qD⟩ := q; exact ⟨q0, q1, qP, va_K.moved (u := U) (U := U.calling g mk a) (Vm.Alike.refl U.vm) qK, qD⟩, va_recv hKc hPc (ci := 7) (q0 := 0) rfl rfl, fun U hU hW => ⟨rfl, by rw [hU], by rw [hU]; exact hPc, va_K.moved hW.alike hKc, hDc.weaken (fun _ _ _ _ => trivial)⟩⟩ rfl rfl hl.1 rfl (lv_room (Nat.le_of_ble_eq_true rfl)) dX7_reckon_199 ⟨Nat.le_of_ble_eq_true rfl, Nat.le_of_ble_eq_true rfl⟩) hS (fun q _ h => hFc q h) hFc (fun u9 t H1 locs ht hvm hw hB hz1 hk1 hS => ?_)
                    subst hw
                    obtain ⟨hP1, hK1, hD1⟩ := hB
                    rw [ht] at hP1
                    obtain ⟨hP, hD⟩ := jM_M hP hD hk1 hFc hP1 hD1
                    clear hPc hDc hKc hFc hz1 hk1 hP1 hK1 hD1 ht hvm
                    generalize H1 = H at hP hS ⊢
                    exact W.vret hx hb hr (fun t ht hW => ⟨⟨(f_X7_logic (sMW_h (sMW_c (sMW_r u (upd (gMW_r u) (7 : Int32).toNatClampNeg (if a1 = (4 : Int32) then (((gMW_r u) (7 : Int32).toNatClampNeg) &&& a2) else (if a1 = (5 : Int32) then (((gMW_r u) (7 : Int32).toNatClampNeg) ^^^ a2) else (((gMW_r u) (7 : Int32).toNatClampNeg) ||| a2) : Int32) : Int32))) false) (if a1 = (4 : Int32) then (if ((((gMW_r u) (7 : Int32).toNatClampNeg) ||| a2) &&& (8 : Int32)) = (0 : Int32) then false else true : Bool) else false : Bool)) ((gMW_r (sMW_h (sMW_c (sMW_r u (upd (gMW_r u) (7 : Int32).toNatClampNeg (if a1 = (4 : Int32) then (((gMW_r u) (7 : Int32).toNatClampNeg) &&& a2) else (if a1 = (5 : Int32) then (((gMW_r u) (7 : Int32).toNatClampNeg) ^^^ a2) else (((gMW_r u) (7 : Int32).toNatClampNeg) ||| a2) : Int32) : Int32))) false) (if a1 = (4 : Int32) then (if ((((gMW_r u) (7 : Int32).toNatClampNeg) ||| a2) &&& (8 : Int32)) = (0 : Int32) then false else true : Bool) else false : Bool))) (7 : Int32).toNatClampNeg)), rfl, (by simp only [f_X7_reckon, if_neg c2, if_neg c3, if_neg c4, if_neg c5, if_neg c6, if_pos c15]), by rw [ht]; exact hP, va_K.moved hW.alike hK, hD⟩, hS.F ht⟩) hS.2.2 dX7_reckon_202
                  · skip
                    refine lv_icmp_ne (tgt := 187) hx hb dX7_reckon_171 (by decide) (fun c18 => ?_) (fun c18 => ?_)
                    · skip
                      refine lv_iconst (v := 0) hx hb dX7_reckon_187 (by decide) ?_
                      exact hJ17 false _ _ _ (by simp only [if_neg c18]) hP hS (lv_sub hl [0, 1, 2, 3, 4] rfl)
                    · skip
                      refine lv_iload_n hx hb dX7_reckon_174 rfl (lv_at hl 3 rfl) ?_
                      refine lv_iload_n hx hb dX7_reckon_175 rfl (lv_at hl 2 rfl) ?_
                      refine lv_ior hx hb dX7_reckon_176 ?_
                      refine lv_bipush (v := 8) hx hb dX7_reckon_177 (by decide) ?_
                      refine lv_iand hx hb dX7_reckon_179 ?_
                      refine jn_b (D := (dC, dI)) (cl := vwCl) (ws := (wM cI mO memA dskA rgA inA outA (sMW_c (sMW_r u (upd (gMW_r u) (7 : Int32).toNatClampNeg (if a1 = (4 : Int32) then (((gMW_r u) (7 : Int32).toNatClampNeg) &&& a2) else (if a1 = (5 : Int32) then (((gMW_r u) (7 : Int32).toNatClampNeg) ^^^ a2) else (((gMW_r u) (7 : Int32).toNatClampNeg) ||| a2) : Int32) : Int32))) false))) (A := A) (H0 := s.heap) (nL := 6) 188 (if ((((gMW_r u) (7 : Int32).toNatClampNeg) ||| a2) &&& (8 : Int32)) = (0 : Int32) then false else true : Bool) [(0, .ref mO), (1, .int a1), (2, .int a2), (3, .int ((gMW_r u) (7 : Int32).toNatClampNeg)), (4, .int (bI (if (bI (gMW_c u)) = (0 : Int32) then false else true : Bool)))] [.ref mO] (fun H locs ls hP hS hl => ?_) (fun hJ19 => ?_)
                      · skip
                        exact hJ17 (if ((((gMW_r u) (7 : Int32).toNatClampNeg) ||| a2) &&& (8 : Int32)) = (0 : Int32) then false else true : Bool) _ _ _ (by simp only [if_pos c18]) hP hS (lv_sub hl [0, 1, 2, 3, 4] rfl)
                      · skip
                        refine lv_if_eq (tgt := 187) hx hb dX7_reckon_180 (by decide) (fun c20 => ?_) (fun c20 => ?_)
                        · skip
                          refine lv_iconst (v := 0) hx hb dX7_reckon_187 (by decide) ?_
                          exact hJ19 false _ _ _ (by simp only [if_pos c20]) hP hS (lv_sub hl [0, 1, 2, 3, 4] rfl)
                        · skip
                          refine lv_iconst (v := 1) hx hb dX7_reckon_183 (by decide) ?_
                          refine lv_goto (tgt := 188) hx hb dX7_reckon_184 (by decide) ?_
                          exact hJ19 true _ _ _ (by simp only [if_neg c20]) hP hS (lv_sub hl [0, 1, 2, 3, 4] rfl)
                · skip
                  refine lv_icmp_ne (tgt := 148) hx hb dX7_reckon_139 (by decide) (fun c21 => ?_) (fun c21 => ?_)
                  · skip
                    refine lv_iload_n hx hb dX7_reckon_148 rfl (lv_at hl 2 rfl) ?_
                    refine lv_iconst (v := 5) hx hb dX7_reckon_149 (by decide) ?_
                    refine jn_i (D := (dC, dI)) (cl := vwCl) (ws := (wM cI mO memA dskA rgA inA outA u)) (A := A) (H0 := s.heap) (nL := 6) 162 (if a1 = (5 : Int32) then (((gMW_r u) (7 : Int32).toNatClampNeg) ^^^ a2) else (((gMW_r u) (7 : Int32).toNatClampNeg) ||| a2) : Int32) [(0, .ref mO), (1, .int a1), (2, .int a2), (3, .int ((gMW_r u) (7 : Int32).toNatClampNeg)), (4, .int (bI (if (bI (gMW_c u)) = (0 : Int32) then false else true : Bool)))] [.int 7, .ref rgA] (fun H locs ls hP hS hl => ?_) (fun hJ22 => ?_)
                    · skip
                      exact hJ16 (if a1 = (5 : Int32) then (((gMW_r u) (7 : Int32).toNatClampNeg) ^^^ a2) else (((gMW_r u) (7 : Int32).toNatClampNeg) ||| a2) : Int32) _ _ _ (by simp only [if_neg c21]) hP hS (lv_sub hl [0, 1, 2, 3, 4] rfl)
                    · skip
                      refine lv_icmp_ne (tgt := 159) hx hb dX7_reckon_150 (by decide) (fun c23 => ?_) (fun c23 => ?_)
                      · skip
                        refine lv_iload_n hx hb dX7_reckon_159 rfl (lv_at hl 4 rfl) ?_
                        refine lv_iload_n hx hb dX7_reckon_160 rfl (lv_at hl 3 rfl) ?_
                        refine lv_ior hx hb dX7_reckon_161 ?_
                        exact hJ22 (((gMW_r u) (7 : Int32).toNatClampNeg) ||| a2) _ _ _ (by simp only [if_neg c23]) hP hS (lv_sub hl [1, 2, 3, 4, 0] rfl)
                      · skip
                        refine lv_iload_n hx hb dX7_reckon_153 rfl (lv_at hl 4 rfl) ?_
                        refine lv_iload_n hx hb dX7_reckon_154 rfl (lv_at hl 3 rfl) ?_
                        refine lv_ixor hx hb dX7_reckon_155 ?_
                        refine lv_goto (tgt := 162) hx hb dX7_reckon_156 (by decide) ?_
                        exact hJ22 (((gMW_r u) (7 : Int32).toNatClampNeg) ^^^ a2) _ _ _ (by simp only [if_pos c23]) hP hS (lv_sub hl [1, 2, 3, 4, 0] rfl)
                  · skip
                    refine lv_iload_n hx hb dX7_reckon_142 rfl (lv_at hl 4 rfl) ?_
                    refine lv_iload_n hx hb dX7_reckon_143 rfl (lv_at hl 3 rfl) ?_
                    refine lv_iand hx hb dX7_reckon_144 ?_
                    refine lv_goto (tgt := 162) hx hb dX7_reckon_145 (by decide) ?_
                    exact hJ16 (((gMW_r u) (7 : Int32).toNatClampNeg) &&& a2) _ _ _ (by simp only [if_pos c21]) hP hS (lv_sub hl [1, 2, 3, 4, 0] rfl)
              · skip
                by_cases c24 : a1 = 6
                · refine tb_in (k := 6) (off := 108) (tgt := 131) hx hb dX7_reckon_23 c24 (by decide) (by decide) (by decide) (by decide) ?_
                  refine lv_aload_n hx hb dX7_reckon_131 rfl (lv_at hl 1 rfl) ?_
                  refine va_get (D := (dC, dI)) (ci := 7) (v := .ref rgA) (C := RX7) (T := TX7) (N := 30) hx hb hts iX7_reckon_X7 hown hK hP 0 rfl rfl 3 (by decide) (hts _ qX7_reckon_0) (fun _ h9 => h9) rfl dX7_reckon_132 ?_
                  refine lv_bipush (v := 7) hx hb dX7_reckon_135 (by decide) ?_
                  refine lv_iload_n hx hb dX7_reckon_137 rfl (lv_at hl 2 rfl) ?_
                  refine lv_iconst (v := 4) hx hb dX7_reckon_138 (by decide) ?_
                  refine jn_i (D := (dC, dI)) (cl := vwCl) (ws := (wM cI mO memA dskA rgA inA outA u)) (A := A) (H0 := s.heap) (nL := 6) 162 (if a1 = (4 : Int32) then (((gMW_r u) (7 : Int32).toNatClampNeg) &&& a2) else (if a1 = (5 : Int32) then (((gMW_r u) (7 : Int32).toNatClampNeg) ^^^ a2) else (((gMW_r u) (7 : Int32).toNatClampNeg) ||| a2) : Int32) : Int32) [(0, .ref mO), (1, .int a1), (2, .int a2), (3, .int ((gMW_r u) (7 : Int32).toNatClampNeg)), (4, .int (bI (if (bI (gMW_c u)) = (0 : Int32) then false else true : Bool)))] [.int 7, .ref rgA] (fun H locs ls hP hS hl => ?_) (fun hJ25 => ?_)
                  · skip
                    refine va_iast (f := (gMW_r u)) hx hb hK hP hD hS 3 0 rfl rfl (ix_lit (by decide)) dX7_reckon_162 (fun H locs hP hD hS => ?_)
                    obtain ⟨hP, hD⟩ := aM_rgA hP hD
                    refine lv_aload_n hx hb dX7_reckon_163 rfl (lv_at hl 0 rfl) ?_
                    refine lv_iconst (v := 0) hx hb dX7_reckon_164 (by decide) ?_
                    refine va_put (D := (dC, dI)) (ci := 7) (v := .int (bI false)) (ty := .boolean) (C := RX7) (T := TX7) (N := 30) hx hb hts iX7_reckon_X7 tyX7 tyX7_ok nmX7 hown hK hP hD hS 0 rfl rfl 8 (by decide) (hts _ qX7_reckon_1) (fun _ h9 => h9) rfl (by decide +kernel) (bI_nar false) (bI_fit false) (Nat.le_of_ble_eq_true rfl) dX7_reckon_165 (fun H locs hP hD hS => ?_)
                    obtain ⟨hP, hD⟩ := pM_c hP hD
                    refine lv_aload_n hx hb dX7_reckon_168 rfl (lv_at hl 0 rfl) ?_
                    refine lv_iload_n hx hb dX7_reckon_169 rfl (lv_at hl 1 rfl) ?_
                    refine lv_iconst (v := 4) hx hb dX7_reckon_170 (by decide) ?_
                    refine jn_b (D := (dC, dI)) (cl := vwCl) (ws := (wM cI mO memA dskA rgA inA outA (sMW_c (sMW_r u (upd (gMW_r u) (7 : Int32).toNatClampNeg (if a1 = (4 : Int32) then (((gMW_r u) (7 : Int32).toNatClampNeg) &&& a2) else (if a1 = (5 : Int32) then (((gMW_r u) (7 : Int32).toNatClampNeg) ^^^ a2) else (((gMW_r u) (7 : Int32).toNatClampNeg) ||| a2) : Int32) : Int32))) false))) (A := A) (H0 := s.heap) (nL := 6) 188 (if a1 = (4 : Int32) then (if ((((gMW_r u) (7 : Int32).toNatClampNeg) ||| a2) &&& (8 : Int32)) = (0 : Int32) then false else true : Bool) else false : Bool) [(0, .ref mO), (1, .int a1), (2, .int a2), (3, .int ((gMW_r u) (7 : Int32).toNatClampNeg)), (4, .int (bI (if (bI (gMW_c u)) = (0 : Int32) then false else true : Bool)))] [.ref mO] (fun H locs ls hP hS hl => ?_) (fun hJ26 => ?_)
                    · skip
                      refine va_put (D := (dC, dI)) (ci := 7) (v := .int (bI (if a1 = (4 : Int32) then (if ((((gMW_r u) (7 : Int32).toNatClampNeg) ||| a2) &&& (8 : Int32)) = (0 : Int32) then false else true : Bool) else false : Bool))) (ty := .boolean) (C := RX7) (T := TX7) (N := 30) hx hb hts iX7_reckon_X7 tyX7 tyX7_ok nmX7 hown hK hP hD hS 0 rfl rfl 6 (by decide) (hts _ qX7_reckon_2) (fun _ h9 => h9) rfl (by decide +kernel) (bI_nar (if a1 = (4 : Int32) then (if ((((gMW_r u) (7 : Int32).toNatClampNeg) ||| a2) &&& (8 : Int32)) = (0 : Int32) then false else true : Bool) else false : Bool)) (bI_fit (if a1 = (4 : Int32) then (if ((((gMW_r u) (7 : Int32).toNatClampNeg) ||| a2) &&& (8 : Int32)) = (0 : Int32) then false else true : Bool) else false : Bool)) (Nat.le_of_ble_eq_true rfl) dX7_reckon_188 (fun H locs hP hD hS => ?_)
                      obtain ⟨hP, hD⟩ := pM_h hP hD
                      refine lv_aload_n hx hb dX7_reckon_191 rfl (lv_at hl 0 rfl) ?_
                      refine lv_aload_n hx hb dX7_reckon_192 rfl (lv_at hl 0 rfl) ?_
                      refine va_get (D := (dC, dI)) (ci := 7) (v := .ref rgA) (C := RX7) (T := TX7) (N := 30) hx hb hts iX7_reckon_X7 hown hK hP 0 rfl rfl 3 (by decide) (hts _ qX7_reckon_0) (fun _ h9 => h9) rfl dX7_reckon_193 ?_
                      refine lv_bipush (v := 7) hx hb dX7_reckon_196 (by decide) ?_
                      refine va_iald (f := (gMW_r (sMW_h (sMW_c (sMW_r u (upd (gMW_r u) (7 : Int32).toNatClampNeg (if a1 = (4 : Int32) then (((gMW_r u) (7 : Int32).toNatClampNeg) &&& a2) else (if a1 = (5 : Int32) then (((gMW_r u) (7 : Int32).toNatClampNeg) ^^^ a2) else (((gMW_r u) (7 : Int32).toNatClampNeg) ||| a2) : Int32) : Int32))) false) (if a1 = (4 : Int32) then (if ((((gMW_r u) (7 : Int32).toNatClampNeg) ||| a2) &&& (8 : Int32)) = (0 : Int32) then false else true : Bool) else false : Bool)))) hx hb hK hP 3 0 rfl rfl (ix_lit (by decide)) dX7_reckon_198 ?_
                      obtain ⟨hPc, hDc, hFc⟩ := xM_M hP hD hS hA
                      have hKc := hK.sub (tys' := [(cI, .int)]) [0] rfl
                      refine va_callv (va_runV (As := [.int ((gMW_r (sMW_h (sMW_c (sMW_r u (upd (gMW_r u) (7 : Int32).toNatClampNeg (if a1 = (4 : Int32) then (((gMW_r u) (7 : Int32).toNatClampNeg) &&& a2) else (if a1 = (5 : Int32) then (((gMW_r u) (7 : Int32).toNatClampNeg) ^^^ a2) else (((gMW_r u) (7 : Int32).toNatClampNeg) ||| a2) : Int32) : Int32))) false) (if a1 = (4 : Int32) then (if ((((gMW_r u) (7 : Int32).toNatClampNeg) ||| a2) &&& (8 : Int32)) = (0 : Int32) then false else true : Bool) else false : Bool))) (7 : Int32).toNatClampNeg)]) (rest := []) ⟨hx, hb, hml, hown, hts⟩ (k_X7_logic l dC dI cI mO memA dskA rgA inA outA H.size (sMW_h (sMW_c (sMW_r u (upd (gMW_r u) (7 : Int32).toNatClampNeg (if a1 = (4 : Int32) then (((gMW_r u) (7 : Int32).toNatClampNeg) &&& a2) else (if a1 = (5 : Int32) then (((gMW_r u) (7 : Int32).toNatClampNeg) ^^^ a2) else (((gMW_r u) (7 : Int32).toNatClampNeg) ||| a2) : Int32) : Int32))) false) (if a1 = (4 : Int32) then (if ((((gMW_r u) (7 : Int32).toNatClampNeg) ||| a2) &&& (8 : Int32)) = (0 : Int32) then false else true : Bool) else false : Bool)) ((gMW_r (sMW_h (sMW_c (sMW_r u (upd (gMW_r u) (7 : Int32).toNatClampNeg (if a1 = (4 : Int32) then (((gMW_r u) (7 : Int32).toNatClampNeg) &&& a2) else (if a1 = (5 : Int32) then (((gMW_r u) (7 : Int32).toNatClampNeg) ^^^ a2) else (((gMW_r u) (7 : Int32).toNatClampNeg) ||| a2) : Int32) : Int32))) false) (if a1 = (4 : Int32) then (if ((((gMW_r u) (7 : Int32).toNatClampNeg) ||| a2) &&& (8 : Int32)) = (0 : Int32) then false else true : Bool) else false : Bool))) (7 : Int32).toNatClampNeg)) (cwV 1 hts gX7_reckon_X7_logic rfl rfl rfl (by decide +kernel) ⟨Nat.le_of_ble_eq_true rfl, Nat.le_of_ble_eq_true rfl⟩) ⟨fun a U g mk q => by obtain ⟨q0, q1, qP, qK, qD⟩ := q; exact ⟨q0, q1, qP, va_K.moved (u := U) (U := U.calling g mk a) (Vm.Alike.refl U.vm) qK, qD⟩, va_recv hKc hPc (ci := 7) (q0 := 0) rfl rfl, fun U hU hW => ⟨rfl, by rw [hU], by rw [hU]; exact hPc, va_K.moved hW.alike hKc, hDc.weaken (fun _ _ _ _ => trivial)⟩⟩ rfl rfl hl.1 rfl (lv_room (Nat.le_of_ble_eq_true rfl)) dX7_reckon_199 ⟨Nat.le_of_ble_eq_true rfl, Nat.le_of_ble_eq_true rfl⟩) hS (fun q _ h => hFc q h) hFc (fun u9 t H1 locs ht hvm hw hB hz1 hk1 hS => ?_)
                      subst hw
                      obtain ⟨hP1, hK1, hD1⟩ := hB
                      rw [ht] at hP1
                      obtain ⟨hP, hD⟩ := jM_M hP hD hk1 hFc hP1 hD1
                      clear hPc hDc hKc hFc hz1 hk1 hP1 hK1 hD1 ht hvm
                      generalize H1 = H at hP hS ⊢
                      exact W.vret hx hb hr (fun t ht hW => ⟨⟨(f_X7_logic (sMW_h (sMW_c (sMW_r u (upd (gMW_r u) (7 : Int32).toNatClampNeg (if a1 = (4 : Int32) then (((gMW_r u) (7 : Int32).toNatClampNeg) &&& a2) else (if a1 = (5 : Int32) then (((gMW_r u) (7 : Int32).toNatClampNeg) ^^^ a2) else (((gMW_r u) (7 : Int32).toNatClampNeg) ||| a2) : Int32) : Int32))) false) (if a1 = (4 : Int32) then (if ((((gMW_r u) (7 : Int32).toNatClampNeg) ||| a2) &&& (8 : Int32)) = (0 : Int32) then false else true : Bool) else false : Bool)) ((gMW_r (sMW_h (sMW_c (sMW_r u (upd (gMW_r u) (7 : Int32).toNatClampNeg (if a1 = (4 : Int32) then (((gMW_r u) (7 : Int32).toNatClampNeg) &&& a2) else (if a1 = (5 : Int32) then (((gMW_r u) (7 : Int32).toNatClampNeg) ^^^ a2) else (((gMW_r u) (7 : Int32).toNatClampNeg) ||| a2) : Int32) : Int32))) false) (if a1 = (4 : Int32) then (if ((((gMW_r u) (7 : Int32).toNatClampNeg) ||| a2) &&& (8 : Int32)) = (0 : Int32) then false else true : Bool) else false : Bool))) (7 : Int32).toNatClampNeg)), rfl, (by simp only [f_X7_reckon, if_neg c2, if_neg c3, if_neg c4, if_neg c5, if_neg c6, if_neg c15, if_pos c24]), by rw [ht]; exact hP, va_K.moved hW.alike hK, hD⟩, hS.F ht⟩) hS.2.2 dX7_reckon_202
                    · skip
                      refine lv_icmp_ne (tgt := 187) hx hb dX7_reckon_171 (by decide) (fun c27 => ?_) (fun c27 => ?_)
                      · skip
                        refine lv_iconst (v := 0) hx hb dX7_reckon_187 (by decide) ?_
                        exact hJ26 false _ _ _ (by simp only [if_neg c27]) hP hS (lv_sub hl [0, 1, 2, 3, 4] rfl)
                      · skip
                        refine lv_iload_n hx hb dX7_reckon_174 rfl (lv_at hl 3 rfl) ?_
                        refine lv_iload_n hx hb dX7_reckon_175 rfl (lv_at hl 2 rfl) ?_
                        refine lv_ior hx hb dX7_reckon_176 ?_
                        refine lv_bipush (v := 8) hx hb dX7_reckon_177 (by decide) ?_
                        refine lv_iand hx hb dX7_reckon_179 ?_
                        refine jn_b (D := (dC, dI)) (cl := vwCl) (ws := (wM cI mO memA dskA rgA inA outA (sMW_c (sMW_r u (upd (gMW_r u) (7 : Int32).toNatClampNeg (if a1 = (4 : Int32) then (((gMW_r u) (7 : Int32).toNatClampNeg) &&& a2) else (if a1 = (5 : Int32) then (((gMW_r u) (7 : Int32).toNatClampNeg) ^^^ a2) else (((gMW_r u) (7 : Int32).toNatClampNeg) ||| a2) : Int32) : Int32))) false))) (A := A) (H0 := s.heap) (nL := 6) 188 (if ((((gMW_r u) (7 : Int32).toNatClampNeg) ||| a2) &&& (8 : Int32)) = (0 : Int32) then false else true : Bool) [(0, .ref mO), (1, .int a1), (2, .int a2), (3, .int ((gMW_r u) (7 : Int32).toNatClampNeg)), (4, .int (bI (if (bI (gMW_c u)) = (0 : Int32) then false else true : Bool)))] [.ref mO] (fun H locs ls hP hS hl => ?_) (fun hJ28 => ?_)
                        · skip
                          exact hJ26 (if ((((gMW_r u) (7 : Int32).toNatClampNeg) ||| a2) &&& (8 : Int32)) = (0 : Int32) then false else true : Bool) _ _ _ (by simp only [if_pos c27]) hP hS (lv_sub hl [0, 1, 2, 3, 4] rfl)
                        · skip
                          refine lv_if_eq (tgt := 187) hx hb dX7_reckon_180 (by decide) (fun c29 => ?_) (fun c29 => ?_)
                          · skip
                            refine lv_iconst (v := 0) hx hb dX7_reckon_187 (by decide) ?_
                            exact hJ28 false _ _ _ (by simp only [if_pos c29]) hP hS (lv_sub hl [0, 1, 2, 3, 4] rfl)
                          · skip
                            refine lv_iconst (v := 1) hx hb dX7_reckon_183 (by decide) ?_
                            refine lv_goto (tgt := 188) hx hb dX7_reckon_184 (by decide) ?_
                            exact hJ28 true _ _ _ (by simp only [if_neg c29]) hP hS (lv_sub hl [0, 1, 2, 3, 4] rfl)
                  · skip
                    refine lv_icmp_ne (tgt := 148) hx hb dX7_reckon_139 (by decide) (fun c30 => ?_) (fun c30 => ?_)
                    · skip
                      refine lv_iload_n hx hb dX7_reckon_148 rfl (lv_at hl 2 rfl) ?_
                      refine lv_iconst (v := 5) hx hb dX7_reckon_149 (by decide) ?_
                      refine jn_i (D := (dC, dI)) (cl := vwCl) (ws := (wM cI mO memA dskA rgA inA outA u)) (A := A) (H0 := s.heap) (nL := 6) 162 (if a1 = (5 : Int32) then (((gMW_r u) (7 : Int32).toNatClampNeg) ^^^ a2) else (((gMW_r u) (7 : Int32).toNatClampNeg) ||| a2) : Int32) [(0, .ref mO), (1, .int a1), (2, .int a2), (3, .int ((gMW_r u) (7 : Int32).toNatClampNeg)), (4, .int (bI (if (bI (gMW_c u)) = (0 : Int32) then false else true : Bool)))] [.int 7, .ref rgA] (fun H locs ls hP hS hl => ?_) (fun hJ31 => ?_)
                      · skip
                        exact hJ25 (if a1 = (5 : Int32) then (((gMW_r u) (7 : Int32).toNatClampNeg) ^^^ a2) else (((gMW_r u) (7 : Int32).toNatClampNeg) ||| a2) : Int32) _ _ _ (by simp only [if_neg c30]) hP hS (lv_sub hl [0, 1, 2, 3, 4] rfl)
                      · skip
                        refine lv_icmp_ne (tgt := 159) hx hb dX7_reckon_150 (by decide) (fun c32 => ?_) (fun c32 => ?_)
                        · skip
                          refine lv_iload_n hx hb dX7_reckon_159 rfl (lv_at hl 4 rfl) ?_
                          refine lv_iload_n hx hb dX7_reckon_160 rfl (lv_at hl 3 rfl) ?_
                          refine lv_ior hx hb dX7_reckon_161 ?_
                          exact hJ31 (((gMW_r u) (7 : Int32).toNatClampNeg) ||| a2) _ _ _ (by simp only [if_neg c32]) hP hS (lv_sub hl [1, 2, 3, 4, 0] rfl)
                        · skip
                          refine lv_iload_n hx hb dX7_reckon_153 rfl (lv_at hl 4 rfl) ?_
                          refine lv_iload_n hx hb dX7_reckon_154 rfl (lv_at hl 3 rfl) ?_
                          refine lv_ixor hx hb dX7_reckon_155 ?_
                          refine lv_goto (tgt := 162) hx hb dX7_reckon_156 (by decide) ?_
                          exact hJ31 (((gMW_r u) (7 : Int32).toNatClampNeg) ^^^ a2) _ _ _ (by simp only [if_pos c32]) hP hS (lv_sub hl [1, 2, 3, 4, 0] rfl)
                    · skip
                      refine lv_iload_n hx hb dX7_reckon_142 rfl (lv_at hl 4 rfl) ?_
                      refine lv_iload_n hx hb dX7_reckon_143 rfl (lv_at hl 3 rfl) ?_
                      refine lv_iand hx hb dX7_reckon_144 ?_
                      refine lv_goto (tgt := 162) hx hb dX7_reckon_145 (by decide) ?_
                      exact hJ25 (((gMW_r u) (7 : Int32).toNatClampNeg) &&& a2) _ _ _ (by simp only [if_pos c30]) hP hS (lv_sub hl [1, 2, 3, 4, 0] rfl)
                · skip
                  by_cases c33 : a1 = 7
                  · refine tb_in (k := 7) (off := 97) (tgt := 120) hx hb dX7_reckon_23 c33 (by decide) (by decide) (by decide) (by decide) ?_
                    refine lv_aload_n hx hb dX7_reckon_120 rfl (lv_at hl 1 rfl) ?_
                    refine lv_iload_n hx hb dX7_reckon_121 rfl (lv_at hl 3 rfl) ?_
                    refine lv_iconst (v := 0) hx hb dX7_reckon_122 (by decide) ?_
                    obtain ⟨hPc, hDc, hFc⟩ := xM_M hP hD hS hA
                    have hKc := hK.sub (tys' := [(cI, .int)]) [0] rfl
                    refine va_calli (va_runV (As := [.int a2, .int 0]) (rest := []) ⟨hx, hb, hml, hown, hts⟩ (k_X7_less l dC dI cI mO memA dskA rgA inA outA H.size u a2 0) (cwV 2 hts gX7_reckon_X7_less rfl rfl rfl (by decide +kernel) ⟨Nat.le_of_ble_eq_true rfl, Nat.le_of_ble_eq_true rfl⟩) ⟨fun a U g mk q => by obtain ⟨q0, q1, qP, qK, qD⟩ := q; exact ⟨q0, q1, qP, va_K.moved (u := U) (U := U.calling g mk a) (Vm.Alike.refl U.vm) qK, qD⟩, va_recv hKc hPc (ci := 7) (q0 := 0) rfl rfl, fun U hU hW => ⟨rfl, by rw [hU], by rw [hU]; exact hPc, va_K.moved hW.alike hKc, hDc.weaken (fun _ _ _ _ => trivial)⟩⟩ rfl rfl hl.1 rfl (lv_room (Nat.le_of_ble_eq_true rfl)) dX7_reckon_123 ⟨Nat.le_of_ble_eq_true rfl, Nat.le_of_ble_eq_true rfl⟩) hS (fun q _ h => hFc q h) hFc (fun r9 u9 t H1 locs ht hvm hw hB hz1 hk1 hS => ?_)
                    obtain ⟨rfl, rfl⟩ := hw
                    obtain ⟨hP1, hK1, hD1⟩ := hB
                    rw [ht] at hP1
                    obtain ⟨hP, hD⟩ := jM_M hP hD hk1 hFc hP1 hD1
                    clear hPc hDc hKc hFc hz1 hk1 hP1 hK1 hD1 ht hvm
                    generalize H1 = H at hP hS ⊢
                    refine lv_istore (lv' := [(5, .int (f_X7_less u a2 0).1), (4, .int (bI (if (bI (gMW_c u)) = (0 : Int32) then false else true : Bool))), (0, .ref mO), (1, .int a1), (2, .int a2), (3, .int ((gMW_r u) (7 : Int32).toNatClampNeg))]) hx hb dX7_reckon_126 hl (by decide) rfl (fun ls hl => ?_)
                    refine lv_goto (tgt := 202) hx hb dX7_reckon_128 (by decide) ?_
                    exact W.vret hx hb hr (fun t ht hW => ⟨⟨(f_X7_less u a2 0).2, rfl, (by simp only [f_X7_reckon, if_neg c2, if_neg c3, if_neg c4, if_neg c5, if_neg c6, if_neg c15, if_neg c24, if_pos c33]), by rw [ht]; exact hP, va_K.moved hW.alike hK, hD⟩, hS.F ht⟩) hS.2.2 dX7_reckon_202
                  · skip
                    refine lv_tableOut (tgt := 131) hx hb dX7_reckon_23 (by have r0 := lv_neT c2 (a := 0) (by decide); have r1 := lv_neT c3 (a := 1) (by decide); have r2 := lv_neT c4 (a := 2) (by decide); have r3 := lv_neT c5 (a := 3) (by decide); have r4 := lv_neT c6 (a := 4) (by decide); have r5 := lv_neT c15 (a := 5) (by decide); have r6 := lv_neT c24 (a := 6) (by decide); have r7 := lv_neT c33 (a := 7) (by decide); omega) (by decide) ?_
                    refine lv_aload_n hx hb dX7_reckon_131 rfl (lv_at hl 1 rfl) ?_
                    refine va_get (D := (dC, dI)) (ci := 7) (v := .ref rgA) (C := RX7) (T := TX7) (N := 30) hx hb hts iX7_reckon_X7 hown hK hP 0 rfl rfl 3 (by decide) (hts _ qX7_reckon_0) (fun _ h9 => h9) rfl dX7_reckon_132 ?_
                    refine lv_bipush (v := 7) hx hb dX7_reckon_135 (by decide) ?_
                    refine lv_iload_n hx hb dX7_reckon_137 rfl (lv_at hl 2 rfl) ?_
                    refine lv_iconst (v := 4) hx hb dX7_reckon_138 (by decide) ?_
                    refine jn_i (D := (dC, dI)) (cl := vwCl) (ws := (wM cI mO memA dskA rgA inA outA u)) (A := A) (H0 := s.heap) (nL := 6) 162 (if a1 = (4 : Int32) then (((gMW_r u) (7 : Int32).toNatClampNeg) &&& a2) else (if a1 = (5 : Int32) then (((gMW_r u) (7 : Int32).toNatClampNeg) ^^^ a2) else (((gMW_r u) (7 : Int32).toNatClampNeg) ||| a2) : Int32) : Int32) [(0, .ref mO), (1, .int a1), (2, .int a2), (3, .int ((gMW_r u) (7 : Int32).toNatClampNeg)), (4, .int (bI (if (bI (gMW_c u)) = (0 : Int32) then false else true : Bool)))] [.int 7, .ref rgA] (fun H locs ls hP hS hl => ?_) (fun hJ34 => ?_)
                    · skip
                      refine va_iast (f := (gMW_r u)) hx hb hK hP hD hS 3 0 rfl rfl (ix_lit (by decide)) dX7_reckon_162 (fun H locs hP hD hS => ?_)
                      obtain ⟨hP, hD⟩ := aM_rgA hP hD
                      refine lv_aload_n hx hb dX7_reckon_163 rfl (lv_at hl 0 rfl) ?_
                      refine lv_iconst (v := 0) hx hb dX7_reckon_164 (by decide) ?_
                      refine va_put (D := (dC, dI)) (ci := 7) (v := .int (bI false)) (ty := .boolean) (C := RX7) (T := TX7) (N := 30) hx hb hts iX7_reckon_X7 tyX7 tyX7_ok nmX7 hown hK hP hD hS 0 rfl rfl 8 (by decide) (hts _ qX7_reckon_1) (fun _ h9 => h9) rfl (by decide +kernel) (bI_nar false) (bI_fit false) (Nat.le_of_ble_eq_true rfl) dX7_reckon_165 (fun H locs hP hD hS => ?_)
                      obtain ⟨hP, hD⟩ := pM_c hP hD
                      refine lv_aload_n hx hb dX7_reckon_168 rfl (lv_at hl 0 rfl) ?_
                      refine lv_iload_n hx hb dX7_reckon_169 rfl (lv_at hl 1 rfl) ?_
                      refine lv_iconst (v := 4) hx hb dX7_reckon_170 (by decide) ?_
                      refine jn_b (D := (dC, dI)) (cl := vwCl) (ws := (wM cI mO memA dskA rgA inA outA (sMW_c (sMW_r u (upd (gMW_r u) (7 : Int32).toNatClampNeg (if a1 = (4 : Int32) then (((gMW_r u) (7 : Int32).toNatClampNeg) &&& a2) else (if a1 = (5 : Int32) then (((gMW_r u) (7 : Int32).toNatClampNeg) ^^^ a2) else (((gMW_r u) (7 : Int32).toNatClampNeg) ||| a2) : Int32) : Int32))) false))) (A := A) (H0 := s.heap) (nL := 6) 188 (if a1 = (4 : Int32) then (if ((((gMW_r u) (7 : Int32).toNatClampNeg) ||| a2) &&& (8 : Int32)) = (0 : Int32) then false else true : Bool) else false : Bool) [(0, .ref mO), (1, .int a1), (2, .int a2), (3, .int ((gMW_r u) (7 : Int32).toNatClampNeg)), (4, .int (bI (if (bI (gMW_c u)) = (0 : Int32) then false else true : Bool)))] [.ref mO] (fun H locs ls hP hS hl => ?_) (fun hJ35 => ?_)
                      · skip
                        refine va_put (D := (dC, dI)) (ci := 7) (v := .int (bI (if a1 = (4 : Int32) then (if ((((gMW_r u) (7 : Int32).toNatClampNeg) ||| a2) &&& (8 : Int32)) = (0 : Int32) then false else true : Bool) else false : Bool))) (ty := .boolean) (C := RX7) (T := TX7) (N := 30) hx hb hts iX7_reckon_X7 tyX7 tyX7_ok nmX7 hown hK hP hD hS 0 rfl rfl 6 (by decide) (hts _ qX7_reckon_2) (fun _ h9 => h9) rfl (by decide +kernel) (bI_nar (if a1 = (4 : Int32) then (if ((((gMW_r u) (7 : Int32).toNatClampNeg) ||| a2) &&& (8 : Int32)) = (0 : Int32) then false else true : Bool) else false : Bool)) (bI_fit (if a1 = (4 : Int32) then (if ((((gMW_r u) (7 : Int32).toNatClampNeg) ||| a2) &&& (8 : Int32)) = (0 : Int32) then false else true : Bool) else false : Bool)) (Nat.le_of_ble_eq_true rfl) dX7_reckon_188 (fun H locs hP hD hS => ?_)
                        obtain ⟨hP, hD⟩ := pM_h hP hD
                        refine lv_aload_n hx hb dX7_reckon_191 rfl (lv_at hl 0 rfl) ?_
                        refine lv_aload_n hx hb dX7_reckon_192 rfl (lv_at hl 0 rfl) ?_
                        refine va_get (D := (dC, dI)) (ci := 7) (v := .ref rgA) (C := RX7) (T := TX7) (N := 30) hx hb hts iX7_reckon_X7 hown hK hP 0 rfl rfl 3 (by decide) (hts _ qX7_reckon_0) (fun _ h9 => h9) rfl dX7_reckon_193 ?_
                        refine lv_bipush (v := 7) hx hb dX7_reckon_196 (by decide) ?_
                        refine va_iald (f := (gMW_r (sMW_h (sMW_c (sMW_r u (upd (gMW_r u) (7 : Int32).toNatClampNeg (if a1 = (4 : Int32) then (((gMW_r u) (7 : Int32).toNatClampNeg) &&& a2) else (if a1 = (5 : Int32) then (((gMW_r u) (7 : Int32).toNatClampNeg) ^^^ a2) else (((gMW_r u) (7 : Int32).toNatClampNeg) ||| a2) : Int32) : Int32))) false) (if a1 = (4 : Int32) then (if ((((gMW_r u) (7 : Int32).toNatClampNeg) ||| a2) &&& (8 : Int32)) = (0 : Int32) then false else true : Bool) else false : Bool)))) hx hb hK hP 3 0 rfl rfl (ix_lit (by decide)) dX7_reckon_198 ?_
                        obtain ⟨hPc, hDc, hFc⟩ := xM_M hP hD hS hA
                        have hKc := hK.sub (tys' := [(cI, .int)]) [0] rfl
                        refine va_callv (va_runV (As := [.int ((gMW_r (sMW_h (sMW_c (sMW_r u (upd (gMW_r u) (7 : Int32).toNatClampNeg (if a1 = (4 : Int32) then (((gMW_r u) (7 : Int32).toNatClampNeg) &&& a2) else (if a1 = (5 : Int32) then (((gMW_r u) (7 : Int32).toNatClampNeg) ^^^ a2) else (((gMW_r u) (7 : Int32).toNatClampNeg) ||| a2) : Int32) : Int32))) false) (if a1 = (4 : Int32) then (if ((((gMW_r u) (7 : Int32).toNatClampNeg) ||| a2) &&& (8 : Int32)) = (0 : Int32) then false else true : Bool) else false : Bool))) (7 : Int32).toNatClampNeg)]) (rest := []) ⟨hx, hb, hml, hown, hts⟩ (k_X7_logic l dC dI cI mO memA dskA rgA inA outA H.size (sMW_h (sMW_c (sMW_r u (upd (gMW_r u) (7 : Int32).toNatClampNeg (if a1 = (4 : Int32) then (((gMW_r u) (7 : Int32).toNatClampNeg) &&& a2) else (if a1 = (5 : Int32) then (((gMW_r u) (7 : Int32).toNatClampNeg) ^^^ a2) else (((gMW_r u) (7 : Int32).toNatClampNeg) ||| a2) : Int32) : Int32))) false) (if a1 = (4 : Int32) then (if ((((gMW_r u) (7 : Int32).toNatClampNeg) ||| a2) &&& (8 : Int32)) = (0 : Int32) then false else true : Bool) else false : Bool)) ((gMW_r (sMW_h (sMW_c (sMW_r u (upd (gMW_r u) (7 : Int32).toNatClampNeg (if a1 = (4 : Int32) then (((gMW_r u) (7 : Int32).toNatClampNeg) &&& a2) else (if a1 = (5 : Int32) then (((gMW_r u) (7 : Int32).toNatClampNeg) ^^^ a2) else (((gMW_r u) (7 : Int32).toNatClampNeg) ||| a2) : Int32) : Int32))) false) (if a1 = (4 : Int32) then (if ((((gMW_r u) (7 : Int32).toNatClampNeg) ||| a2) &&& (8 : Int32)) = (0 : Int32) then false else true : Bool) else false : Bool))) (7 : Int32).toNatClampNeg)) (cwV 1 hts gX7_reckon_X7_logic rfl rfl rfl (by decide +kernel) ⟨Nat.le_of_ble_eq_true rfl, Nat.le_of_ble_eq_true rfl⟩) ⟨fun a U g mk q => by obtain ⟨q0, q1, qP, qK, qD⟩ := q; exact ⟨q0, q1, qP, va_K.moved (u := U) (U := U.calling g mk a) (Vm.Alike.refl U.vm) qK, qD⟩, va_recv hKc hPc (ci := 7) (q0 := 0) rfl rfl, fun U hU hW => ⟨rfl, by rw [hU], by rw [hU]; exact hPc, va_K.moved hW.alike hKc, hDc.weaken (fun _ _ _ _ => trivial)⟩⟩ rfl rfl hl.1 rfl (lv_room (Nat.le_of_ble_eq_true rfl)) dX7_reckon_199 ⟨Nat.le_of_ble_eq_true rfl, Nat.le_of_ble_eq_true rfl⟩) hS (fun q _ h => hFc q h) hFc (fun u9 t H1 locs ht hvm hw hB hz1 hk1 hS => ?_)
                        subst hw
                        obtain ⟨hP1, hK1, hD1⟩ := hB
                        rw [ht] at hP1
                        obtain ⟨hP, hD⟩ := jM_M hP hD hk1 hFc hP1 hD1
                        clear hPc hDc hKc hFc hz1 hk1 hP1 hK1 hD1 ht hvm
                        generalize H1 = H at hP hS ⊢
                        exact W.vret hx hb hr (fun t ht hW => ⟨⟨(f_X7_logic (sMW_h (sMW_c (sMW_r u (upd (gMW_r u) (7 : Int32).toNatClampNeg (if a1 = (4 : Int32) then (((gMW_r u) (7 : Int32).toNatClampNeg) &&& a2) else (if a1 = (5 : Int32) then (((gMW_r u) (7 : Int32).toNatClampNeg) ^^^ a2) else (((gMW_r u) (7 : Int32).toNatClampNeg) ||| a2) : Int32) : Int32))) false) (if a1 = (4 : Int32) then (if ((((gMW_r u) (7 : Int32).toNatClampNeg) ||| a2) &&& (8 : Int32)) = (0 : Int32) then false else true : Bool) else false : Bool)) ((gMW_r (sMW_h (sMW_c (sMW_r u (upd (gMW_r u) (7 : Int32).toNatClampNeg (if a1 = (4 : Int32) then (((gMW_r u) (7 : Int32).toNatClampNeg) &&& a2) else (if a1 = (5 : Int32) then (((gMW_r u) (7 : Int32).toNatClampNeg) ^^^ a2) else (((gMW_r u) (7 : Int32).toNatClampNeg) ||| a2) : Int32) : Int32))) false) (if a1 = (4 : Int32) then (if ((((gMW_r u) (7 : Int32).toNatClampNeg) ||| a2) &&& (8 : Int32)) = (0 : Int32) then false else true : Bool) else false : Bool))) (7 : Int32).toNatClampNeg)), rfl, (by simp only [f_X7_reckon, if_neg c2, if_neg c3, if_neg c4, if_neg c5, if_neg c6, if_neg c15, if_neg c24, if_neg c33]), by rw [ht]; exact hP, va_K.moved hW.alike hK, hD⟩, hS.F ht⟩) hS.2.2 dX7_reckon_202
                      · skip
                        refine lv_icmp_ne (tgt := 187) hx hb dX7_reckon_171 (by decide) (fun c36 => ?_) (fun c36 => ?_)
                        · skip
                          refine lv_iconst (v := 0) hx hb dX7_reckon_187 (by decide) ?_
                          exact hJ35 false _ _ _ (by simp only [if_neg c36]) hP hS (lv_sub hl [0, 1, 2, 3, 4] rfl)
                        · skip
                          refine lv_iload_n hx hb dX7_reckon_174 rfl (lv_at hl 3 rfl) ?_
                          refine lv_iload_n hx hb dX7_reckon_175 rfl (lv_at hl 2 rfl) ?_
                          refine lv_ior hx hb dX7_reckon_176 ?_
                          refine lv_bipush (v := 8) hx hb dX7_reckon_177 (by decide) ?_
                          refine lv_iand hx hb dX7_reckon_179 ?_
                          refine jn_b (D := (dC, dI)) (cl := vwCl) (ws := (wM cI mO memA dskA rgA inA outA (sMW_c (sMW_r u (upd (gMW_r u) (7 : Int32).toNatClampNeg (if a1 = (4 : Int32) then (((gMW_r u) (7 : Int32).toNatClampNeg) &&& a2) else (if a1 = (5 : Int32) then (((gMW_r u) (7 : Int32).toNatClampNeg) ^^^ a2) else (((gMW_r u) (7 : Int32).toNatClampNeg) ||| a2) : Int32) : Int32))) false))) (A := A) (H0 := s.heap) (nL := 6) 188 (if ((((gMW_r u) (7 : Int32).toNatClampNeg) ||| a2) &&& (8 : Int32)) = (0 : Int32) then false else true : Bool) [(0, .ref mO), (1, .int a1), (2, .int a2), (3, .int ((gMW_r u) (7 : Int32).toNatClampNeg)), (4, .int (bI (if (bI (gMW_c u)) = (0 : Int32) then false else true : Bool)))] [.ref mO] (fun H locs ls hP hS hl => ?_) (fun hJ37 => ?_)
                          · skip
                            exact hJ35 (if ((((gMW_r u) (7 : Int32).toNatClampNeg) ||| a2) &&& (8 : Int32)) = (0 : Int32) then false else true : Bool) _ _ _ (by simp only [if_pos c36]) hP hS (lv_sub hl [0, 1, 2, 3, 4] rfl)
                          · skip
                            refine lv_if_eq (tgt := 187) hx hb dX7_reckon_180 (by decide) (fun c38 => ?_) (fun c38 => ?_)
                            · skip
                              refine lv_iconst (v := 0) hx hb dX7_reckon_187 (by decide) ?_
                              exact hJ37 false _ _ _ (by simp only [if_pos c38]) hP hS (lv_sub hl [0, 1, 2, 3, 4] rfl)
                            · skip
                              refine lv_iconst (v := 1) hx hb dX7_reckon_183 (by decide) ?_
                              refine lv_goto (tgt := 188) hx hb dX7_reckon_184 (by decide) ?_
                              exact hJ37 true _ _ _ (by simp only [if_neg c38]) hP hS (lv_sub hl [0, 1, 2, 3, 4] rfl)
                    · skip
                      refine lv_icmp_ne (tgt := 148) hx hb dX7_reckon_139 (by decide) (fun c39 => ?_) (fun c39 => ?_)
                      · skip
                        refine lv_iload_n hx hb dX7_reckon_148 rfl (lv_at hl 2 rfl) ?_
                        refine lv_iconst (v := 5) hx hb dX7_reckon_149 (by decide) ?_
                        refine jn_i (D := (dC, dI)) (cl := vwCl) (ws := (wM cI mO memA dskA rgA inA outA u)) (A := A) (H0 := s.heap) (nL := 6) 162 (if a1 = (5 : Int32) then (((gMW_r u) (7 : Int32).toNatClampNeg) ^^^ a2) else (((gMW_r u) (7 : Int32).toNatClampNeg) ||| a2) : Int32) [(0, .ref mO), (1, .int a1), (2, .int a2), (3, .int ((gMW_r u) (7 : Int32).toNatClampNeg)), (4, .int (bI (if (bI (gMW_c u)) = (0 : Int32) then false else true : Bool)))] [.int 7, .ref rgA] (fun H locs ls hP hS hl => ?_) (fun hJ40 => ?_)
                        · skip
                          exact hJ34 (if a1 = (5 : Int32) then (((gMW_r u) (7 : Int32).toNatClampNeg) ^^^ a2) else (((gMW_r u) (7 : Int32).toNatClampNeg) ||| a2) : Int32) _ _ _ (by simp only [if_neg c39]) hP hS (lv_sub hl [0, 1, 2, 3, 4] rfl)
                        · skip
                          refine lv_icmp_ne (tgt := 159) hx hb dX7_reckon_150 (by decide) (fun c41 => ?_) (fun c41 => ?_)
                          · skip
                            refine lv_iload_n hx hb dX7_reckon_159 rfl (lv_at hl 4 rfl) ?_
                            refine lv_iload_n hx hb dX7_reckon_160 rfl (lv_at hl 3 rfl) ?_
                            refine lv_ior hx hb dX7_reckon_161 ?_
                            exact hJ40 (((gMW_r u) (7 : Int32).toNatClampNeg) ||| a2) _ _ _ (by simp only [if_neg c41]) hP hS (lv_sub hl [1, 2, 3, 4, 0] rfl)
                          · skip
                            refine lv_iload_n hx hb dX7_reckon_153 rfl (lv_at hl 4 rfl) ?_
                            refine lv_iload_n hx hb dX7_reckon_154 rfl (lv_at hl 3 rfl) ?_
                            refine lv_ixor hx hb dX7_reckon_155 ?_
                            refine lv_goto (tgt := 162) hx hb dX7_reckon_156 (by decide) ?_
                            exact hJ40 (((gMW_r u) (7 : Int32).toNatClampNeg) ^^^ a2) _ _ _ (by simp only [if_pos c41]) hP hS (lv_sub hl [1, 2, 3, 4, 0] rfl)
                      · skip
                        refine lv_iload_n hx hb dX7_reckon_142 rfl (lv_at hl 4 rfl) ?_
                        refine lv_iload_n hx hb dX7_reckon_143 rfl (lv_at hl 3 rfl) ?_
                        refine lv_iand hx hb dX7_reckon_144 ?_
                        refine lv_goto (tgt := 162) hx hb dX7_reckon_145 (by decide) ?_
                        exact hJ34 (((gMW_r u) (7 : Int32).toNatClampNeg) &&& a2) _ _ _ (by simp only [if_pos c39]) hP hS (lv_sub hl [1, 2, 3, 4, 0] rfl)
  · skip
    refine lv_if_eq (tgt := 19) hx hb dX7_reckon_12 (by decide) (fun c42 => ?_) (fun c42 => ?_)
    · skip
      refine lv_iconst (v := 0) hx hb dX7_reckon_19 (by decide) ?_
      exact hJ1 false _ _ _ (by simp only [if_pos c42]) hP hS (lv_sub hl [1, 2, 3, 0] rfl)
    · skip
      refine lv_iconst (v := 1) hx hb dX7_reckon_15 (by decide) ?_
      refine lv_goto (tgt := 20) hx hb dX7_reckon_16 (by decide) ?_
      exact hJ1 true _ _ _ (by simp only [if_neg c42]) hP hS (lv_sub hl [1, 2, 3, 0] rfl)

def f_X7_adjust (u : MW) : MW := 
  if (9 : Int32) < (((gMW_r u) (7 : Int32).toNatClampNeg) &&& (15 : Int32)) then 
    if (bI (if (9 : Int32) < (((gMW_r u) (7 : Int32).toNatClampNeg) >>> ((4 : Int32) &&& 31)) then true else (if (bI (gMW_c u)) = (0 : Int32) then (if (((gMW_r u) (7 : Int32).toNatClampNeg) >>> ((4 : Int32) &&& 31)) = (9 : Int32) then (if (((gMW_r u) (7 : Int32).toNatClampNeg) &&& (15 : Int32)) ≤ (9 : Int32) then false else true : Bool) else false : Bool) else true : Bool) : Bool)) = (0 : Int32) then (f_X7_logic (sMW_r (sMW_h u (if ((((gMW_r u) (7 : Int32).toNatClampNeg) &&& (15 : Int32)) + (6 : Int32)) ≤ (15 : Int32) then false else true : Bool)) (upd (gMW_r (sMW_h u (if ((((gMW_r u) (7 : Int32).toNatClampNeg) &&& (15 : Int32)) + (6 : Int32)) ≤ (15 : Int32) then false else true : Bool))) (7 : Int32).toNatClampNeg ((((gMW_r u) (7 : Int32).toNatClampNeg) + (6 : Int32)) &&& (255 : Int32)))) ((gMW_r (sMW_r (sMW_h u (if ((((gMW_r u) (7 : Int32).toNatClampNeg) &&& (15 : Int32)) + (6 : Int32)) ≤ (15 : Int32) then false else true : Bool)) (upd (gMW_r (sMW_h u (if ((((gMW_r u) (7 : Int32).toNatClampNeg) &&& (15 : Int32)) + (6 : Int32)) ≤ (15 : Int32) then false else true : Bool))) (7 : Int32).toNatClampNeg ((((gMW_r u) (7 : Int32).toNatClampNeg) + (6 : Int32)) &&& (255 : Int32))))) (7 : Int32).toNatClampNeg))
    else (f_X7_logic (sMW_r (sMW_c (sMW_h u (if ((((gMW_r u) (7 : Int32).toNatClampNeg) &&& (15 : Int32)) + (6 : Int32)) ≤ (15 : Int32) then false else true : Bool)) true) (upd (gMW_r (sMW_c (sMW_h u (if ((((gMW_r u) (7 : Int32).toNatClampNeg) &&& (15 : Int32)) + (6 : Int32)) ≤ (15 : Int32) then false else true : Bool)) true)) (7 : Int32).toNatClampNeg (((((gMW_r u) (7 : Int32).toNatClampNeg) + (6 : Int32)) + (96 : Int32)) &&& (255 : Int32)))) ((gMW_r (sMW_r (sMW_c (sMW_h u (if ((((gMW_r u) (7 : Int32).toNatClampNeg) &&& (15 : Int32)) + (6 : Int32)) ≤ (15 : Int32) then false else true : Bool)) true) (upd (gMW_r (sMW_c (sMW_h u (if ((((gMW_r u) (7 : Int32).toNatClampNeg) &&& (15 : Int32)) + (6 : Int32)) ≤ (15 : Int32) then false else true : Bool)) true)) (7 : Int32).toNatClampNeg (((((gMW_r u) (7 : Int32).toNatClampNeg) + (6 : Int32)) + (96 : Int32)) &&& (255 : Int32))))) (7 : Int32).toNatClampNeg))
  else 
    if (bI (gMW_h u)) = (0 : Int32) then 
      if (bI (if (9 : Int32) < (((gMW_r u) (7 : Int32).toNatClampNeg) >>> ((4 : Int32) &&& 31)) then true else (if (bI (gMW_c u)) = (0 : Int32) then (if (((gMW_r u) (7 : Int32).toNatClampNeg) >>> ((4 : Int32) &&& 31)) = (9 : Int32) then (if (((gMW_r u) (7 : Int32).toNatClampNeg) &&& (15 : Int32)) ≤ (9 : Int32) then false else true : Bool) else false : Bool) else true : Bool) : Bool)) = (0 : Int32) then (f_X7_logic (sMW_r (sMW_h u false) (upd (gMW_r (sMW_h u false)) (7 : Int32).toNatClampNeg (((gMW_r u) (7 : Int32).toNatClampNeg) &&& (255 : Int32)))) ((gMW_r (sMW_r (sMW_h u false) (upd (gMW_r (sMW_h u false)) (7 : Int32).toNatClampNeg (((gMW_r u) (7 : Int32).toNatClampNeg) &&& (255 : Int32))))) (7 : Int32).toNatClampNeg))
      else (f_X7_logic (sMW_r (sMW_c (sMW_h u false) true) (upd (gMW_r (sMW_c (sMW_h u false) true)) (7 : Int32).toNatClampNeg ((((gMW_r u) (7 : Int32).toNatClampNeg) + (96 : Int32)) &&& (255 : Int32)))) ((gMW_r (sMW_r (sMW_c (sMW_h u false) true) (upd (gMW_r (sMW_c (sMW_h u false) true)) (7 : Int32).toNatClampNeg ((((gMW_r u) (7 : Int32).toNatClampNeg) + (96 : Int32)) &&& (255 : Int32))))) (7 : Int32).toNatClampNeg))
    else 
      if (bI (if (9 : Int32) < (((gMW_r u) (7 : Int32).toNatClampNeg) >>> ((4 : Int32) &&& 31)) then true else (if (bI (gMW_c u)) = (0 : Int32) then (if (((gMW_r u) (7 : Int32).toNatClampNeg) >>> ((4 : Int32) &&& 31)) = (9 : Int32) then (if (((gMW_r u) (7 : Int32).toNatClampNeg) &&& (15 : Int32)) ≤ (9 : Int32) then false else true : Bool) else false : Bool) else true : Bool) : Bool)) = (0 : Int32) then (f_X7_logic (sMW_r (sMW_h u (if ((((gMW_r u) (7 : Int32).toNatClampNeg) &&& (15 : Int32)) + (6 : Int32)) ≤ (15 : Int32) then false else true : Bool)) (upd (gMW_r (sMW_h u (if ((((gMW_r u) (7 : Int32).toNatClampNeg) &&& (15 : Int32)) + (6 : Int32)) ≤ (15 : Int32) then false else true : Bool))) (7 : Int32).toNatClampNeg ((((gMW_r u) (7 : Int32).toNatClampNeg) + (6 : Int32)) &&& (255 : Int32)))) ((gMW_r (sMW_r (sMW_h u (if ((((gMW_r u) (7 : Int32).toNatClampNeg) &&& (15 : Int32)) + (6 : Int32)) ≤ (15 : Int32) then false else true : Bool)) (upd (gMW_r (sMW_h u (if ((((gMW_r u) (7 : Int32).toNatClampNeg) &&& (15 : Int32)) + (6 : Int32)) ≤ (15 : Int32) then false else true : Bool))) (7 : Int32).toNatClampNeg ((((gMW_r u) (7 : Int32).toNatClampNeg) + (6 : Int32)) &&& (255 : Int32))))) (7 : Int32).toNatClampNeg))
      else (f_X7_logic (sMW_r (sMW_c (sMW_h u (if ((((gMW_r u) (7 : Int32).toNatClampNeg) &&& (15 : Int32)) + (6 : Int32)) ≤ (15 : Int32) then false else true : Bool)) true) (upd (gMW_r (sMW_c (sMW_h u (if ((((gMW_r u) (7 : Int32).toNatClampNeg) &&& (15 : Int32)) + (6 : Int32)) ≤ (15 : Int32) then false else true : Bool)) true)) (7 : Int32).toNatClampNeg (((((gMW_r u) (7 : Int32).toNatClampNeg) + (6 : Int32)) + (96 : Int32)) &&& (255 : Int32)))) ((gMW_r (sMW_r (sMW_c (sMW_h u (if ((((gMW_r u) (7 : Int32).toNatClampNeg) &&& (15 : Int32)) + (6 : Int32)) ≤ (15 : Int32) then false else true : Bool)) true) (upd (gMW_r (sMW_c (sMW_h u (if ((((gMW_r u) (7 : Int32).toNatClampNeg) &&& (15 : Int32)) + (6 : Int32)) ≤ (15 : Int32) then false else true : Bool)) true)) (7 : Int32).toNatClampNeg (((((gMW_r u) (7 : Int32).toNatClampNeg) + (6 : Int32)) + (96 : Int32)) &&& (255 : Int32))))) (7 : Int32).toNatClampNeg))
theorem qX7_adjust_0 : Cond.fieldLink RX7 16 "DiskMachineModel" "\x72" "[I" ∈ wsX7_adjust := by decide +kernel
theorem qX7_adjust_1 : Cond.fieldLink RX7 80 "DiskMachineModel" "carry" "Z" ∈ wsX7_adjust := by decide +kernel
theorem qX7_adjust_2 : Cond.fieldLink RX7 74 "DiskMachineModel" "half" "Z" ∈ wsX7_adjust := by decide +kernel
theorem iX7_adjust_X7 : ∀ w ∈ wsX70, w ∈ wsX7_adjust := by decide +kernel
set_option maxHeartbeats 4000000 in
set_option maxRecDepth 100000 in
theorem k_X7_adjust (l : Launch) (dC : Nat → ClassId) (dI : Nat → Nat → Nat) (cI : ClassId) (mO memA dskA rgA inA outA : Nat) (sz : Nat) (u : MW) : Met l yX7_adjust wsX7_adjust ({ frames := 1, cells := 0, slots := 0, locals := 23 }) (va_Pc [.ref mO] (wB dC dI [(cI, .int)] sz (wM cI mO memA dskA rgA inA outA u))) (va_Qv (fun u' : MW => u' = (f_X7_adjust u)) (fun u' => wE dC dI [(cI, .int)] (va_A (wM cI mO memA dskA rgA inA outA u) sz) (wM cI mO memA dskA rgA inA outA u')) (va_A (wM cI mO memA dskA rgA inA outA u) sz)) 0 0 (va_A (wM cI mO memA dskA rgA inA outA u) sz) := by
  refine Met.ofW (cc := cX7_adjust) (maxL := 5) (ret := none) (by decide) rfl ?_
  intro p e s m args below meth c s₁ B hml hv
  obtain ⟨rfl, hsz, hP, hK, hD0⟩ := hv
  have hx := B.exec
  have hb := B.bytes
  have hr := B.returns
  have hts := atoms_spec (ws := wsX7_adjust) B.pre
  have hown : s.vm.findClass RX7 = some m.cls := findClass_of_methodNamed B.named
  have hlocks := B.notSynchronized
  subst hsz
  have hD := hD0.self (sz := s.heap.size)
  generalize hAe : va_A (wM cI mO memA dskA rgA inA outA u) s.heap.size = A at hD ⊢
  have hA : ∀ q : Nat, s.heap.size ≤ q → A q := fun q h => by rw [← hAe]; exact Or.inr h
  have hS : va_S A s.heap s.heap [] := va_S.rf
  have hP : va_P (dC, dI) vwCl (wM cI mO memA dskA rgA inA outA u) s.heap := hP
  clear hAe hD0
  have hl := lv_entry ([.ref mO]) (n := 5) (Nat.le_of_ble_eq_true rfl)
  rw [lg_entry_eq]
  generalize (lg_sl ([.ref mO]) ++ List.replicate (5 - (lg_sl ([.ref mO])).length) Slot.unset).toArray = ls at hl ⊢
  have hl : lv_has ls 5 [(0, .ref mO)] := hl
  refine jn_H hP hS (fun H locs hP hS => ?_)
  refine lv_aload_n hx hb dX7_adjust_0 rfl (lv_at hl 0 rfl) ?_
  refine va_get (D := (dC, dI)) (ci := 7) (v := .ref rgA) (C := RX7) (T := TX7) (N := 30) hx hb hts iX7_adjust_X7 hown hK hP 0 rfl rfl 3 (by decide) (hts _ qX7_adjust_0) (fun _ h9 => h9) rfl dX7_adjust_1 ?_
  refine lv_bipush (v := 7) hx hb dX7_adjust_4 (by decide) ?_
  refine va_iald (f := (gMW_r u)) hx hb hK hP 3 0 rfl rfl (ix_lit (by decide)) dX7_adjust_6 ?_
  refine lv_bipush (v := 15) hx hb dX7_adjust_7 (by decide) ?_
  refine lv_iand hx hb dX7_adjust_9 ?_
  refine lv_istore_n (lv' := [(1, .int (((gMW_r u) (7 : Int32).toNatClampNeg) &&& (15 : Int32))), (0, .ref mO)]) hx hb dX7_adjust_10 rfl hl (by decide) rfl (fun ls hl => ?_)
  refine lv_aload_n hx hb dX7_adjust_11 rfl (lv_at hl 1 rfl) ?_
  refine va_get (D := (dC, dI)) (ci := 7) (v := .ref rgA) (C := RX7) (T := TX7) (N := 30) hx hb hts iX7_adjust_X7 hown hK hP 0 rfl rfl 3 (by decide) (hts _ qX7_adjust_0) (fun _ h9 => h9) rfl dX7_adjust_12 ?_
  refine lv_bipush (v := 7) hx hb dX7_adjust_15 (by decide) ?_
  refine va_iald (f := (gMW_r u)) hx hb hK hP 3 0 rfl rfl (ix_lit (by decide)) dX7_adjust_17 ?_
  refine lv_iconst (v := 4) hx hb dX7_adjust_18 (by decide) ?_
  refine lv_ishr hx hb dX7_adjust_19 ?_
  refine lv_istore_n (lv' := [(2, .int (((gMW_r u) (7 : Int32).toNatClampNeg) >>> ((4 : Int32) &&& 31))), (1, .int (((gMW_r u) (7 : Int32).toNatClampNeg) &&& (15 : Int32))), (0, .ref mO)]) hx hb dX7_adjust_20 rfl hl (by decide) rfl (fun ls hl => ?_)
  refine lv_iload_n hx hb dX7_adjust_21 rfl (lv_at hl 0 rfl) ?_
  refine lv_bipush (v := 9) hx hb dX7_adjust_22 (by decide) ?_
  refine jn_b (D := (dC, dI)) (cl := vwCl) (ws := (wM cI mO memA dskA rgA inA outA u)) (A := A) (H0 := s.heap) (nL := 5) 51 (if (9 : Int32) < (((gMW_r u) (7 : Int32).toNatClampNeg) >>> ((4 : Int32) &&& 31)) then true else (if (bI (gMW_c u)) = (0 : Int32) then (if (((gMW_r u) (7 : Int32).toNatClampNeg) >>> ((4 : Int32) &&& 31)) = (9 : Int32) then (if (((gMW_r u) (7 : Int32).toNatClampNeg) &&& (15 : Int32)) ≤ (9 : Int32) then false else true : Bool) else false : Bool) else true : Bool) : Bool) [(0, .ref mO), (1, .int (((gMW_r u) (7 : Int32).toNatClampNeg) &&& (15 : Int32))), (2, .int (((gMW_r u) (7 : Int32).toNatClampNeg) >>> ((4 : Int32) &&& 31)))] [] (fun H locs ls hP hS hl => ?_) (fun hJ1 => ?_)
  · skip
    refine lv_istore_n (lv' := [(3, .int (bI (if (9 : Int32) < (((gMW_r u) (7 : Int32).toNatClampNeg) >>> ((4 : Int32) &&& 31)) then true else (if (bI (gMW_c u)) = (0 : Int32) then (if (((gMW_r u) (7 : Int32).toNatClampNeg) >>> ((4 : Int32) &&& 31)) = (9 : Int32) then (if (((gMW_r u) (7 : Int32).toNatClampNeg) &&& (15 : Int32)) ≤ (9 : Int32) then false else true : Bool) else false : Bool) else true : Bool) : Bool))), (0, .ref mO), (1, .int (((gMW_r u) (7 : Int32).toNatClampNeg) &&& (15 : Int32))), (2, .int (((gMW_r u) (7 : Int32).toNatClampNeg) >>> ((4 : Int32) &&& 31)))]) hx hb dX7_adjust_51 rfl hl (by decide) rfl (fun ls hl => ?_)
    refine lv_aload_n hx hb dX7_adjust_52 rfl (lv_at hl 1 rfl) ?_
    refine va_get (D := (dC, dI)) (ci := 7) (v := .ref rgA) (C := RX7) (T := TX7) (N := 30) hx hb hts iX7_adjust_X7 hown hK hP 0 rfl rfl 3 (by decide) (hts _ qX7_adjust_0) (fun _ h9 => h9) rfl dX7_adjust_53 ?_
    refine lv_bipush (v := 7) hx hb dX7_adjust_56 (by decide) ?_
    refine va_iald (f := (gMW_r u)) hx hb hK hP 3 0 rfl rfl (ix_lit (by decide)) dX7_adjust_58 ?_
    refine lv_istore (lv' := [(4, .int ((gMW_r u) (7 : Int32).toNatClampNeg)), (3, .int (bI (if (9 : Int32) < (((gMW_r u) (7 : Int32).toNatClampNeg) >>> ((4 : Int32) &&& 31)) then true else (if (bI (gMW_c u)) = (0 : Int32) then (if (((gMW_r u) (7 : Int32).toNatClampNeg) >>> ((4 : Int32) &&& 31)) = (9 : Int32) then (if (((gMW_r u) (7 : Int32).toNatClampNeg) &&& (15 : Int32)) ≤ (9 : Int32) then false else true : Bool) else false : Bool) else true : Bool) : Bool))), (0, .ref mO), (1, .int (((gMW_r u) (7 : Int32).toNatClampNeg) &&& (15 : Int32))), (2, .int (((gMW_r u) (7 : Int32).toNatClampNeg) >>> ((4 : Int32) &&& 31)))]) hx hb dX7_adjust_59 hl (by decide) rfl (fun ls hl => ?_)
    refine lv_iload_n hx hb dX7_adjust_61 rfl (lv_at hl 3 rfl) ?_
    refine lv_bipush (v := 9) hx hb dX7_adjust_62 (by decide) ?_
    refine lv_icmp_gt (tgt := 74) hx hb dX7_adjust_64 (by decide) (fun c2 => ?_) (fun c2 => ?_)
    · skip
      refine lv_iload hx hb dX7_adjust_74 (lv_at hl 0 rfl) ?_
      refine lv_bipush (v := 6) hx hb dX7_adjust_76 (by decide) ?_
      refine lv_iadd hx hb dX7_adjust_78 ?_
      refine lv_istore (lv' := [(4, .int (((gMW_r u) (7 : Int32).toNatClampNeg) + (6 : Int32))), (3, .int (bI (if (9 : Int32) < (((gMW_r u) (7 : Int32).toNatClampNeg) >>> ((4 : Int32) &&& 31)) then true else (if (bI (gMW_c u)) = (0 : Int32) then (if (((gMW_r u) (7 : Int32).toNatClampNeg) >>> ((4 : Int32) &&& 31)) = (9 : Int32) then (if (((gMW_r u) (7 : Int32).toNatClampNeg) &&& (15 : Int32)) ≤ (9 : Int32) then false else true : Bool) else false : Bool) else true : Bool) : Bool))), (0, .ref mO), (1, .int (((gMW_r u) (7 : Int32).toNatClampNeg) &&& (15 : Int32))), (2, .int (((gMW_r u) (7 : Int32).toNatClampNeg) >>> ((4 : Int32) &&& 31)))]) hx hb dX7_adjust_79 hl (by decide) rfl (fun ls hl => ?_)
      refine lv_aload_n hx hb dX7_adjust_81 rfl (lv_at hl 2 rfl) ?_
      refine lv_iload_n hx hb dX7_adjust_82 rfl (lv_at hl 3 rfl) ?_
      refine lv_bipush (v := 6) hx hb dX7_adjust_83 (by decide) ?_
      refine lv_iadd hx hb dX7_adjust_85 ?_
      refine lv_bipush (v := 15) hx hb dX7_adjust_86 (by decide) ?_
      refine jn_b (D := (dC, dI)) (cl := vwCl) (ws := (wM cI mO memA dskA rgA inA outA u)) (A := A) (H0 := s.heap) (nL := 5) 96 (if ((((gMW_r u) (7 : Int32).toNatClampNeg) &&& (15 : Int32)) + (6 : Int32)) ≤ (15 : Int32) then false else true : Bool) [(0, .ref mO), (1, .int (((gMW_r u) (7 : Int32).toNatClampNeg) &&& (15 : Int32))), (2, .int (((gMW_r u) (7 : Int32).toNatClampNeg) >>> ((4 : Int32) &&& 31))), (3, .int (bI (if (9 : Int32) < (((gMW_r u) (7 : Int32).toNatClampNeg) >>> ((4 : Int32) &&& 31)) then true else (if (bI (gMW_c u)) = (0 : Int32) then (if (((gMW_r u) (7 : Int32).toNatClampNeg) >>> ((4 : Int32) &&& 31)) = (9 : Int32) then (if (((gMW_r u) (7 : Int32).toNatClampNeg) &&& (15 : Int32)) ≤ (9 : Int32) then false else true : Bool) else false : Bool) else true : Bool) : Bool))), (4, .int (((gMW_r u) (7 : Int32).toNatClampNeg) + (6 : Int32)))] [.ref mO] (fun H locs ls hP hS hl => ?_) (fun hJ3 => ?_)
      · skip
        refine va_put (D := (dC, dI)) (ci := 7) (v := .int (bI (if ((((gMW_r u) (7 : Int32).toNatClampNeg) &&& (15 : Int32)) + (6 : Int32)) ≤ (15 : Int32) then false else true : Bool))) (ty := .boolean) (C := RX7) (T := TX7) (N := 30) hx hb hts iX7_adjust_X7 tyX7 tyX7_ok nmX7 hown hK hP hD hS 0 rfl rfl 6 (by decide) (hts _ qX7_adjust_2) (fun _ h9 => h9) rfl (by decide +kernel) (bI_nar (if ((((gMW_r u) (7 : Int32).toNatClampNeg) &&& (15 : Int32)) + (6 : Int32)) ≤ (15 : Int32) then false else true : Bool)) (bI_fit (if ((((gMW_r u) (7 : Int32).toNatClampNeg) &&& (15 : Int32)) + (6 : Int32)) ≤ (15 : Int32) then false else true : Bool)) (Nat.le_of_ble_eq_true rfl) dX7_adjust_96 (fun H locs hP hD hS => ?_)
        obtain ⟨hP, hD⟩ := pM_h hP hD
        refine lv_goto (tgt := 107) hx hb dX7_adjust_99 (by decide) ?_
        refine lv_iload_n hx hb dX7_adjust_107 rfl (lv_at hl 3 rfl) ?_
        refine lv_if_eq (tgt := 123) hx hb dX7_adjust_108 (by decide) (fun c4 => ?_) (fun c4 => ?_)
        · skip
          refine lv_aload_n hx hb dX7_adjust_123 rfl (lv_at hl 0 rfl) ?_
          refine va_get (D := (dC, dI)) (ci := 7) (v := .ref rgA) (C := RX7) (T := TX7) (N := 30) hx hb hts iX7_adjust_X7 hown hK hP 0 rfl rfl 3 (by decide) (hts _ qX7_adjust_0) (fun _ h9 => h9) rfl dX7_adjust_124 ?_
          refine lv_bipush (v := 7) hx hb dX7_adjust_127 (by decide) ?_
          refine lv_iload hx hb dX7_adjust_129 (lv_at hl 4 rfl) ?_
          refine lv_sipush (v := 255) hx hb dX7_adjust_131 (by decide) ?_
          refine lv_iand hx hb dX7_adjust_134 ?_
          refine va_iast (f := (gMW_r (sMW_h u (if ((((gMW_r u) (7 : Int32).toNatClampNeg) &&& (15 : Int32)) + (6 : Int32)) ≤ (15 : Int32) then false else true : Bool)))) hx hb hK hP hD hS 3 0 rfl rfl (ix_lit (by decide)) dX7_adjust_135 (fun H locs hP hD hS => ?_)
          obtain ⟨hP, hD⟩ := aM_rgA hP hD
          refine lv_aload_n hx hb dX7_adjust_136 rfl (lv_at hl 0 rfl) ?_
          refine lv_aload_n hx hb dX7_adjust_137 rfl (lv_at hl 0 rfl) ?_
          refine va_get (D := (dC, dI)) (ci := 7) (v := .ref rgA) (C := RX7) (T := TX7) (N := 30) hx hb hts iX7_adjust_X7 hown hK hP 0 rfl rfl 3 (by decide) (hts _ qX7_adjust_0) (fun _ h9 => h9) rfl dX7_adjust_138 ?_
          refine lv_bipush (v := 7) hx hb dX7_adjust_141 (by decide) ?_
          refine va_iald (f := (gMW_r (sMW_r (sMW_h u (if ((((gMW_r u) (7 : Int32).toNatClampNeg) &&& (15 : Int32)) + (6 : Int32)) ≤ (15 : Int32) then false else true : Bool)) (upd (gMW_r (sMW_h u (if ((((gMW_r u) (7 : Int32).toNatClampNeg) &&& (15 : Int32)) + (6 : Int32)) ≤ (15 : Int32) then false else true : Bool))) (7 : Int32).toNatClampNeg ((((gMW_r u) (7 : Int32).toNatClampNeg) + (6 : Int32)) &&& (255 : Int32)))))) hx hb hK hP 3 0 rfl rfl (ix_lit (by decide)) dX7_adjust_143 ?_
          obtain ⟨hPc, hDc, hFc⟩ := xM_M hP hD hS hA
          have hKc := hK.sub (tys' := [(cI, .int)]) [0] rfl
          refine va_callv (va_runV (As := [.int ((gMW_r (sMW_r (sMW_h u (if ((((gMW_r u) (7 : Int32).toNatClampNeg) &&& (15 : Int32)) + (6 : Int32)) ≤ (15 : Int32) then false else true : Bool)) (upd (gMW_r (sMW_h u (if ((((gMW_r u) (7 : Int32).toNatClampNeg) &&& (15 : Int32)) + (6 : Int32)) ≤ (15 : Int32) then false else true : Bool))) (7 : Int32).toNatClampNeg ((((gMW_r u) (7 : Int32).toNatClampNeg) + (6 : Int32)) &&& (255 : Int32))))) (7 : Int32).toNatClampNeg)]) (rest := []) ⟨hx, hb, hml, hown, hts⟩ (k_X7_logic l dC dI cI mO memA dskA rgA inA outA H.size (sMW_r (sMW_h u (if ((((gMW_r u) (7 : Int32).toNatClampNeg) &&& (15 : Int32)) + (6 : Int32)) ≤ (15 : Int32) then false else true : Bool)) (upd (gMW_r (sMW_h u (if ((((gMW_r u) (7 : Int32).toNatClampNeg) &&& (15 : Int32)) + (6 : Int32)) ≤ (15 : Int32) then false else true : Bool))) (7 : Int32).toNatClampNeg ((((gMW_r u) (7 : Int32).toNatClampNeg) + (6 : Int32)) &&& (255 : Int32)))) ((gMW_r (sMW_r (sMW_h u (if ((((gMW_r u) (7 : Int32).toNatClampNeg) &&& (15 : Int32)) + (6 : Int32)) ≤ (15 : Int32) then false else true : Bool)) (upd (gMW_r (sMW_h u (if ((((gMW_r u) (7 : Int32).toNatClampNeg) &&& (15 : Int32)) + (6 : Int32)) ≤ (15 : Int32) then false else true : Bool))) (7 : Int32).toNatClampNeg ((((gMW_r u) (7 : Int32).toNatClampNeg) + (6 : Int32)) &&& (255 : Int32))))) (7 : Int32).toNatClampNeg)) (cwV 1 hts gX7_adjust_X7_logic rfl rfl rfl (by decide +kernel) ⟨Nat.le_of_ble_eq_true rfl, Nat.le_of_ble_eq_true rfl⟩) ⟨fun a U g mk q => by obtain ⟨q0, q1, qP, qK, qD⟩ := q; exact ⟨q0, q1, qP, va_K.moved (u := U) (U := U.calling g mk a) (Vm.Alike.refl U.vm) qK, qD⟩, va_recv hKc hPc (ci := 7) (q0 := 0) rfl rfl, fun U hU hW => ⟨rfl, by rw [hU], by rw [hU]; exact hPc, va_K.moved hW.alike hKc, hDc.weaken (fun _ _ _ _ => trivial)⟩⟩ rfl rfl hl.1 rfl (lv_room (Nat.le_of_ble_eq_true rfl)) dX7_adjust_144 ⟨Nat.le_of_ble_eq_true rfl, Nat.le_of_ble_eq_true rfl⟩) hS (fun q _ h => hFc q h) hFc (fun u9 t H1 locs ht hvm hw hB hz1 hk1 hS => ?_)
          subst hw
          obtain ⟨hP1, hK1, hD1⟩ := hB
          rw [ht] at hP1
          obtain ⟨hP, hD⟩ := jM_M hP hD hk1 hFc hP1 hD1
          clear hPc hDc hKc hFc hz1 hk1 hP1 hK1 hD1 ht hvm
          generalize H1 = H at hP hS ⊢
          exact W.vret hx hb hr (fun t ht hW => ⟨⟨(f_X7_logic (sMW_r (sMW_h u (if ((((gMW_r u) (7 : Int32).toNatClampNeg) &&& (15 : Int32)) + (6 : Int32)) ≤ (15 : Int32) then false else true : Bool)) (upd (gMW_r (sMW_h u (if ((((gMW_r u) (7 : Int32).toNatClampNeg) &&& (15 : Int32)) + (6 : Int32)) ≤ (15 : Int32) then false else true : Bool))) (7 : Int32).toNatClampNeg ((((gMW_r u) (7 : Int32).toNatClampNeg) + (6 : Int32)) &&& (255 : Int32)))) ((gMW_r (sMW_r (sMW_h u (if ((((gMW_r u) (7 : Int32).toNatClampNeg) &&& (15 : Int32)) + (6 : Int32)) ≤ (15 : Int32) then false else true : Bool)) (upd (gMW_r (sMW_h u (if ((((gMW_r u) (7 : Int32).toNatClampNeg) &&& (15 : Int32)) + (6 : Int32)) ≤ (15 : Int32) then false else true : Bool))) (7 : Int32).toNatClampNeg ((((gMW_r u) (7 : Int32).toNatClampNeg) + (6 : Int32)) &&& (255 : Int32))))) (7 : Int32).toNatClampNeg)), rfl, (by simp only [f_X7_adjust, if_pos c2, if_pos c4]), by rw [ht]; exact hP, va_K.moved hW.alike hK, hD⟩, hS.F ht⟩) hS.2.2 dX7_adjust_147
        · skip
          refine lv_iload hx hb dX7_adjust_111 (lv_at hl 4 rfl) ?_
          refine lv_bipush (v := 96) hx hb dX7_adjust_113 (by decide) ?_
          refine lv_iadd hx hb dX7_adjust_115 ?_
          refine lv_istore (lv' := [(4, .int ((((gMW_r u) (7 : Int32).toNatClampNeg) + (6 : Int32)) + (96 : Int32))), (0, .ref mO), (1, .int (((gMW_r u) (7 : Int32).toNatClampNeg) &&& (15 : Int32))), (2, .int (((gMW_r u) (7 : Int32).toNatClampNeg) >>> ((4 : Int32) &&& 31))), (3, .int (bI (if (9 : Int32) < (((gMW_r u) (7 : Int32).toNatClampNeg) >>> ((4 : Int32) &&& 31)) then true else (if (bI (gMW_c u)) = (0 : Int32) then (if (((gMW_r u) (7 : Int32).toNatClampNeg) >>> ((4 : Int32) &&& 31)) = (9 : Int32) then (if (((gMW_r u) (7 : Int32).toNatClampNeg) &&& (15 : Int32)) ≤ (9 : Int32) then false else true : Bool) else false : Bool) else true : Bool) : Bool)))]) hx hb dX7_adjust_116 hl (by decide) rfl (fun ls hl => ?_)
          refine lv_aload_n hx hb dX7_adjust_118 rfl (lv_at hl 1 rfl) ?_
          refine lv_iconst (v := 1) hx hb dX7_adjust_119 (by decide) ?_
          refine va_put (D := (dC, dI)) (ci := 7) (v := .int (bI true)) (ty := .boolean) (C := RX7) (T := TX7) (N := 30) hx hb hts iX7_adjust_X7 tyX7 tyX7_ok nmX7 hown hK hP hD hS 0 rfl rfl 8 (by decide) (hts _ qX7_adjust_1) (fun _ h9 => h9) rfl (by decide +kernel) (bI_nar true) (bI_fit true) (Nat.le_of_ble_eq_true rfl) dX7_adjust_120 (fun H locs hP hD hS => ?_)
          obtain ⟨hP, hD⟩ := pM_c hP hD
          refine lv_aload_n hx hb dX7_adjust_123 rfl (lv_at hl 1 rfl) ?_
          refine va_get (D := (dC, dI)) (ci := 7) (v := .ref rgA) (C := RX7) (T := TX7) (N := 30) hx hb hts iX7_adjust_X7 hown hK hP 0 rfl rfl 3 (by decide) (hts _ qX7_adjust_0) (fun _ h9 => h9) rfl dX7_adjust_124 ?_
          refine lv_bipush (v := 7) hx hb dX7_adjust_127 (by decide) ?_
          refine lv_iload hx hb dX7_adjust_129 (lv_at hl 0 rfl) ?_
          refine lv_sipush (v := 255) hx hb dX7_adjust_131 (by decide) ?_
          refine lv_iand hx hb dX7_adjust_134 ?_
          refine va_iast (f := (gMW_r (sMW_c (sMW_h u (if ((((gMW_r u) (7 : Int32).toNatClampNeg) &&& (15 : Int32)) + (6 : Int32)) ≤ (15 : Int32) then false else true : Bool)) true))) hx hb hK hP hD hS 3 0 rfl rfl (ix_lit (by decide)) dX7_adjust_135 (fun H locs hP hD hS => ?_)
          obtain ⟨hP, hD⟩ := aM_rgA hP hD
          refine lv_aload_n hx hb dX7_adjust_136 rfl (lv_at hl 1 rfl) ?_
          refine lv_aload_n hx hb dX7_adjust_137 rfl (lv_at hl 1 rfl) ?_
          refine va_get (D := (dC, dI)) (ci := 7) (v := .ref rgA) (C := RX7) (T := TX7) (N := 30) hx hb hts iX7_adjust_X7 hown hK hP 0 rfl rfl 3 (by decide) (hts _ qX7_adjust_0) (fun _ h9 => h9) rfl dX7_adjust_138 ?_
          refine lv_bipush (v := 7) hx hb dX7_adjust_141 (by decide) ?_
          refine va_iald (f := (gMW_r (sMW_r (sMW_c (sMW_h u (if ((((gMW_r u) (7 : Int32).toNatClampNeg) &&& (15 : Int32)) + (6 : Int32)) ≤ (15 : Int32) then false else true : Bool)) true) (upd (gMW_r (sMW_c (sMW_h u (if ((((gMW_r u) (7 : Int32).toNatClampNeg) &&& (15 : Int32)) + (6 : Int32)) ≤ (15 : Int32) then false else true : Bool)) true)) (7 : Int32).toNatClampNeg (((((gMW_r u) (7 : Int32).toNatClampNeg) + (6 : Int32)) + (96 : Int32)) &&& (255 : Int32)))))) hx hb hK hP 3 0 rfl rfl (ix_lit (by decide)) dX7_adjust_143 ?_
          obtain ⟨hPc, hDc, hFc⟩ := xM_M hP hD hS hA
          have hKc := hK.sub (tys' := [(cI, .int)]) [0] rfl
          refine va_callv (va_runV (As := [.int ((gMW_r (sMW_r (sMW_c (sMW_h u (if ((((gMW_r u) (7 : Int32).toNatClampNeg) &&& (15 : Int32)) + (6 : Int32)) ≤ (15 : Int32) then false else true : Bool)) true) (upd (gMW_r (sMW_c (sMW_h u (if ((((gMW_r u) (7 : Int32).toNatClampNeg) &&& (15 : Int32)) + (6 : Int32)) ≤ (15 : Int32) then false else true : Bool)) true)) (7 : Int32).toNatClampNeg (((((gMW_r u) (7 : Int32).toNatClampNeg) + (6 : Int32)) + (96 : Int32)) &&& (255 : Int32))))) (7 : Int32).toNatClampNeg)]) (rest := []) ⟨hx, hb, hml, hown, hts⟩ (k_X7_logic l dC dI cI mO memA dskA rgA inA outA H.size (sMW_r (sMW_c (sMW_h u (if ((((gMW_r u) (7 : Int32).toNatClampNeg) &&& (15 : Int32)) + (6 : Int32)) ≤ (15 : Int32) then false else true : Bool)) true) (upd (gMW_r (sMW_c (sMW_h u (if ((((gMW_r u) (7 : Int32).toNatClampNeg) &&& (15 : Int32)) + (6 : Int32)) ≤ (15 : Int32) then false else true : Bool)) true)) (7 : Int32).toNatClampNeg (((((gMW_r u) (7 : Int32).toNatClampNeg) + (6 : Int32)) + (96 : Int32)) &&& (255 : Int32)))) ((gMW_r (sMW_r (sMW_c (sMW_h u (if ((((gMW_r u) (7 : Int32).toNatClampNeg) &&& (15 : Int32)) + (6 : Int32)) ≤ (15 : Int32) then false else true : Bool)) true) (upd (gMW_r (sMW_c (sMW_h u (if ((((gMW_r u) (7 : Int32).toNatClampNeg) &&& (15 : Int32)) + (6 : Int32)) ≤ (15 : Int32) then false else true : Bool)) true)) (7 : Int32).toNatClampNeg (((((gMW_r u) (7 : Int32).toNatClampNeg) + (6 : Int32)) + (96 : Int32)) &&& (255 : Int32))))) (7 : Int32).toNatClampNeg)) (cwV 1 hts gX7_adjust_X7_logic rfl rfl rfl (by decide +kernel) ⟨Nat.le_of_ble_eq_true rfl, Nat.le_of_ble_eq_true rfl⟩) ⟨fun a U g mk q => by obtain ⟨q0, q1, qP, qK, qD⟩ := q; exact ⟨q0, q1, qP, va_K.moved (u := U) (U := U.calling g mk a) (Vm.Alike.refl U.vm) qK, qD⟩, va_recv hKc hPc (ci := 7) (q0 := 0) rfl rfl, fun U hU hW => ⟨rfl, by rw [hU], by rw [hU]; exact hPc, va_K.moved hW.alike hKc, hDc.weaken (fun _ _ _ _ => trivial)⟩⟩ rfl rfl hl.1 rfl (lv_room (Nat.le_of_ble_eq_true rfl)) dX7_adjust_144 ⟨Nat.le_of_ble_eq_true rfl, Nat.le_of_ble_eq_true rfl⟩) hS (fun q _ h => hFc q h) hFc (fun u9 t H1 locs ht hvm hw hB hz1 hk1 hS => ?_)
          subst hw
          obtain ⟨hP1, hK1, hD1⟩ := hB
          rw [ht] at hP1
          obtain ⟨hP, hD⟩ := jM_M hP hD hk1 hFc hP1 hD1
          clear hPc hDc hKc hFc hz1 hk1 hP1 hK1 hD1 ht hvm
          generalize H1 = H at hP hS ⊢
          exact W.vret hx hb hr (fun t ht hW => ⟨⟨(f_X7_logic (sMW_r (sMW_c (sMW_h u (if ((((gMW_r u) (7 : Int32).toNatClampNeg) &&& (15 : Int32)) + (6 : Int32)) ≤ (15 : Int32) then false else true : Bool)) true) (upd (gMW_r (sMW_c (sMW_h u (if ((((gMW_r u) (7 : Int32).toNatClampNeg) &&& (15 : Int32)) + (6 : Int32)) ≤ (15 : Int32) then false else true : Bool)) true)) (7 : Int32).toNatClampNeg (((((gMW_r u) (7 : Int32).toNatClampNeg) + (6 : Int32)) + (96 : Int32)) &&& (255 : Int32)))) ((gMW_r (sMW_r (sMW_c (sMW_h u (if ((((gMW_r u) (7 : Int32).toNatClampNeg) &&& (15 : Int32)) + (6 : Int32)) ≤ (15 : Int32) then false else true : Bool)) true) (upd (gMW_r (sMW_c (sMW_h u (if ((((gMW_r u) (7 : Int32).toNatClampNeg) &&& (15 : Int32)) + (6 : Int32)) ≤ (15 : Int32) then false else true : Bool)) true)) (7 : Int32).toNatClampNeg (((((gMW_r u) (7 : Int32).toNatClampNeg) + (6 : Int32)) + (96 : Int32)) &&& (255 : Int32))))) (7 : Int32).toNatClampNeg)), rfl, (by simp only [f_X7_adjust, if_pos c2, if_neg c4]), by rw [ht]; exact hP, va_K.moved hW.alike hK, hD⟩, hS.F ht⟩) hS.2.2 dX7_adjust_147
      · skip
        refine lv_icmp_le (tgt := 95) hx hb dX7_adjust_88 (by decide) (fun c5 => ?_) (fun c5 => ?_)
        · skip
          refine lv_iconst (v := 0) hx hb dX7_adjust_95 (by decide) ?_
          exact hJ3 false _ _ _ (by simp only [if_pos c5]) hP hS (lv_sub hl [2, 3, 4, 1, 0] rfl)
        · skip
          refine lv_iconst (v := 1) hx hb dX7_adjust_91 (by decide) ?_
          refine lv_goto (tgt := 96) hx hb dX7_adjust_92 (by decide) ?_
          exact hJ3 true _ _ _ (by simp only [if_neg c5]) hP hS (lv_sub hl [2, 3, 4, 1, 0] rfl)
    · skip
      refine lv_aload_n hx hb dX7_adjust_67 rfl (lv_at hl 2 rfl) ?_
      refine va_get (D := (dC, dI)) (ci := 7) (v := .int (bI (gMW_h u))) (C := RX7) (T := TX7) (N := 30) hx hb hts iX7_adjust_X7 hown hK hP 0 rfl rfl 6 (by decide) (hts _ qX7_adjust_2) (fun _ h9 => h9) rfl dX7_adjust_68 ?_
      refine lv_if_eq (tgt := 102) hx hb dX7_adjust_71 (by decide) (fun c6 => ?_) (fun c6 => ?_)
      · skip
        refine lv_aload_n hx hb dX7_adjust_102 rfl (lv_at hl 2 rfl) ?_
        refine lv_iconst (v := 0) hx hb dX7_adjust_103 (by decide) ?_
        refine va_put (D := (dC, dI)) (ci := 7) (v := .int (bI false)) (ty := .boolean) (C := RX7) (T := TX7) (N := 30) hx hb hts iX7_adjust_X7 tyX7 tyX7_ok nmX7 hown hK hP hD hS 0 rfl rfl 6 (by decide) (hts _ qX7_adjust_2) (fun _ h9 => h9) rfl (by decide +kernel) (bI_nar false) (bI_fit false) (Nat.le_of_ble_eq_true rfl) dX7_adjust_104 (fun H locs hP hD hS => ?_)
        obtain ⟨hP, hD⟩ := pM_h hP hD
        refine lv_iload_n hx hb dX7_adjust_107 rfl (lv_at hl 1 rfl) ?_
        refine lv_if_eq (tgt := 123) hx hb dX7_adjust_108 (by decide) (fun c7 => ?_) (fun c7 => ?_)
        · skip
          refine lv_aload_n hx hb dX7_adjust_123 rfl (lv_at hl 2 rfl) ?_
          refine va_get (D := (dC, dI)) (ci := 7) (v := .ref rgA) (C := RX7) (T := TX7) (N := 30) hx hb hts iX7_adjust_X7 hown hK hP 0 rfl rfl 3 (by decide) (hts _ qX7_adjust_0) (fun _ h9 => h9) rfl dX7_adjust_124 ?_
          refine lv_bipush (v := 7) hx hb dX7_adjust_127 (by decide) ?_
          refine lv_iload hx hb dX7_adjust_129 (lv_at hl 0 rfl) ?_
          refine lv_sipush (v := 255) hx hb dX7_adjust_131 (by decide) ?_
          refine lv_iand hx hb dX7_adjust_134 ?_
          refine va_iast (f := (gMW_r (sMW_h u false))) hx hb hK hP hD hS 3 0 rfl rfl (ix_lit (by decide)) dX7_adjust_135 (fun H locs hP hD hS => ?_)
          obtain ⟨hP, hD⟩ := aM_rgA hP hD
          refine lv_aload_n hx hb dX7_adjust_136 rfl (lv_at hl 2 rfl) ?_
          refine lv_aload_n hx hb dX7_adjust_137 rfl (lv_at hl 2 rfl) ?_
          refine va_get (D := (dC, dI)) (ci := 7) (v := .ref rgA) (C := RX7) (T := TX7) (N := 30) hx hb hts iX7_adjust_X7 hown hK hP 0 rfl rfl 3 (by decide) (hts _ qX7_adjust_0) (fun _ h9 => h9) rfl dX7_adjust_138 ?_
          refine lv_bipush (v := 7) hx hb dX7_adjust_141 (by decide) ?_
          refine va_iald (f := (gMW_r (sMW_r (sMW_h u false) (upd (gMW_r (sMW_h u false)) (7 : Int32).toNatClampNeg (((gMW_r u) (7 : Int32).toNatClampNeg) &&& (255 : Int32)))))) hx hb hK hP 3 0 rfl rfl (ix_lit (by decide)) dX7_adjust_143 ?_
          obtain ⟨hPc, hDc, hFc⟩ := xM_M hP hD hS hA
          have hKc := hK.sub (tys' := [(cI, .int)]) [0] rfl
          refine va_callv (va_runV (As := [.int ((gMW_r (sMW_r (sMW_h u false) (upd (gMW_r (sMW_h u false)) (7 : Int32).toNatClampNeg (((gMW_r u) (7 : Int32).toNatClampNeg) &&& (255 : Int32))))) (7 : Int32).toNatClampNeg)]) (rest := []) ⟨hx, hb, hml, hown, hts⟩ (k_X7_logic l dC dI cI mO memA dskA rgA inA outA H.size (sMW_r (sMW_h u false) (upd (gMW_r (sMW_h u false)) (7 : Int32).toNatClampNeg (((gMW_r u) (7 : Int32).toNatClampNeg) &&& (255 : Int32)))) ((gMW_r (sMW_r (sMW_h u false) (upd (gMW_r (sMW_h u false)) (7 : Int32).toNatClampNeg (((gMW_r u) (7 : Int32).toNatClampNeg) &&& (255 : Int32))))) (7 : Int32).toNatClampNeg)) (cwV 1 hts gX7_adjust_X7_logic rfl rfl rfl (by decide +kernel) ⟨Nat.le_of_ble_eq_true rfl, Nat.le_of_ble_eq_true rfl⟩) ⟨fun a U g mk q => by obtain ⟨q0, q1, qP, qK, qD⟩ := q; exact ⟨q0, q1, qP, va_K.moved (u := U) (U := U.calling g mk a) (Vm.Alike.refl U.vm) qK, qD⟩, va_recv hKc hPc (ci := 7) (q0 := 0) rfl rfl, fun U hU hW => ⟨rfl, by rw [hU], by rw [hU]; exact hPc, va_K.moved hW.alike hKc, hDc.weaken (fun _ _ _ _ => trivial)⟩⟩ rfl rfl hl.1 rfl (lv_room (Nat.le_of_ble_eq_true rfl)) dX7_adjust_144 ⟨Nat.le_of_ble_eq_true rfl, Nat.le_of_ble_eq_true rfl⟩) hS (fun q _ h => hFc q h) hFc (fun u9 t H1 locs ht hvm hw hB hz1 hk1 hS => ?_)
          subst hw
          obtain ⟨hP1, hK1, hD1⟩ := hB
          rw [ht] at hP1
          obtain ⟨hP, hD⟩ := jM_M hP hD hk1 hFc hP1 hD1
          clear hPc hDc hKc hFc hz1 hk1 hP1 hK1 hD1 ht hvm
          generalize H1 = H at hP hS ⊢
          exact W.vret hx hb hr (fun t ht hW => ⟨⟨(f_X7_logic (sMW_r (sMW_h u false) (upd (gMW_r (sMW_h u false)) (7 : Int32).toNatClampNeg (((gMW_r u) (7 : Int32).toNatClampNeg) &&& (255 : Int32)))) ((gMW_r (sMW_r (sMW_h u false) (upd (gMW_r (sMW_h u false)) (7 : Int32).toNatClampNeg (((gMW_r u) (7 : Int32).toNatClampNeg) &&& (255 : Int32))))) (7 : Int32).toNatClampNeg)), rfl, (by simp only [f_X7_adjust, if_neg c2, if_pos c6, if_pos c7]), by rw [ht]; exact hP, va_K.moved hW.alike hK, hD⟩, hS.F ht⟩) hS.2.2 dX7_adjust_147
        · skip
          refine lv_iload hx hb dX7_adjust_111 (lv_at hl 0 rfl) ?_
          refine lv_bipush (v := 96) hx hb dX7_adjust_113 (by decide) ?_
          refine lv_iadd hx hb dX7_adjust_115 ?_
          refine lv_istore (lv' := [(4, .int (((gMW_r u) (7 : Int32).toNatClampNeg) + (96 : Int32))), (3, .int (bI (if (9 : Int32) < (((gMW_r u) (7 : Int32).toNatClampNeg) >>> ((4 : Int32) &&& 31)) then true else (if (bI (gMW_c u)) = (0 : Int32) then (if (((gMW_r u) (7 : Int32).toNatClampNeg) >>> ((4 : Int32) &&& 31)) = (9 : Int32) then (if (((gMW_r u) (7 : Int32).toNatClampNeg) &&& (15 : Int32)) ≤ (9 : Int32) then false else true : Bool) else false : Bool) else true : Bool) : Bool))), (0, .ref mO), (1, .int (((gMW_r u) (7 : Int32).toNatClampNeg) &&& (15 : Int32))), (2, .int (((gMW_r u) (7 : Int32).toNatClampNeg) >>> ((4 : Int32) &&& 31)))]) hx hb dX7_adjust_116 hl (by decide) rfl (fun ls hl => ?_)
          refine lv_aload_n hx hb dX7_adjust_118 rfl (lv_at hl 2 rfl) ?_
          refine lv_iconst (v := 1) hx hb dX7_adjust_119 (by decide) ?_
          refine va_put (D := (dC, dI)) (ci := 7) (v := .int (bI true)) (ty := .boolean) (C := RX7) (T := TX7) (N := 30) hx hb hts iX7_adjust_X7 tyX7 tyX7_ok nmX7 hown hK hP hD hS 0 rfl rfl 8 (by decide) (hts _ qX7_adjust_1) (fun _ h9 => h9) rfl (by decide +kernel) (bI_nar true) (bI_fit true) (Nat.le_of_ble_eq_true rfl) dX7_adjust_120 (fun H locs hP hD hS => ?_)
          obtain ⟨hP, hD⟩ := pM_c hP hD
          refine lv_aload_n hx hb dX7_adjust_123 rfl (lv_at hl 2 rfl) ?_
          refine va_get (D := (dC, dI)) (ci := 7) (v := .ref rgA) (C := RX7) (T := TX7) (N := 30) hx hb hts iX7_adjust_X7 hown hK hP 0 rfl rfl 3 (by decide) (hts _ qX7_adjust_0) (fun _ h9 => h9) rfl dX7_adjust_124 ?_
          refine lv_bipush (v := 7) hx hb dX7_adjust_127 (by decide) ?_
          refine lv_iload hx hb dX7_adjust_129 (lv_at hl 0 rfl) ?_
          refine lv_sipush (v := 255) hx hb dX7_adjust_131 (by decide) ?_
          refine lv_iand hx hb dX7_adjust_134 ?_
          refine va_iast (f := (gMW_r (sMW_c (sMW_h u false) true))) hx hb hK hP hD hS 3 0 rfl rfl (ix_lit (by decide)) dX7_adjust_135 (fun H locs hP hD hS => ?_)
          obtain ⟨hP, hD⟩ := aM_rgA hP hD
          refine lv_aload_n hx hb dX7_adjust_136 rfl (lv_at hl 2 rfl) ?_
          refine lv_aload_n hx hb dX7_adjust_137 rfl (lv_at hl 2 rfl) ?_
          refine va_get (D := (dC, dI)) (ci := 7) (v := .ref rgA) (C := RX7) (T := TX7) (N := 30) hx hb hts iX7_adjust_X7 hown hK hP 0 rfl rfl 3 (by decide) (hts _ qX7_adjust_0) (fun _ h9 => h9) rfl dX7_adjust_138 ?_
          refine lv_bipush (v := 7) hx hb dX7_adjust_141 (by decide) ?_
          refine va_iald (f := (gMW_r (sMW_r (sMW_c (sMW_h u false) true) (upd (gMW_r (sMW_c (sMW_h u false) true)) (7 : Int32).toNatClampNeg ((((gMW_r u) (7 : Int32).toNatClampNeg) + (96 : Int32)) &&& (255 : Int32)))))) hx hb hK hP 3 0 rfl rfl (ix_lit (by decide)) dX7_adjust_143 ?_
          obtain ⟨hPc, hDc, hFc⟩ := xM_M hP hD hS hA
          have hKc := hK.sub (tys' := [(cI, .int)]) [0] rfl
          refine va_callv (va_runV (As := [.int ((gMW_r (sMW_r (sMW_c (sMW_h u false) true) (upd (gMW_r (sMW_c (sMW_h u false) true)) (7 : Int32).toNatClampNeg ((((gMW_r u) (7 : Int32).toNatClampNeg) + (96 : Int32)) &&& (255 : Int32))))) (7 : Int32).toNatClampNeg)]) (rest := []) ⟨hx, hb, hml, hown, hts⟩ (k_X7_logic l dC dI cI mO memA dskA rgA inA outA H.size (sMW_r (sMW_c (sMW_h u false) true) (upd (gMW_r (sMW_c (sMW_h u false) true)) (7 : Int32).toNatClampNeg ((((gMW_r u) (7 : Int32).toNatClampNeg) + (96 : Int32)) &&& (255 : Int32)))) ((gMW_r (sMW_r (sMW_c (sMW_h u false) true) (upd (gMW_r (sMW_c (sMW_h u false) true)) (7 : Int32).toNatClampNeg ((((gMW_r u) (7 : Int32).toNatClampNeg) + (96 : Int32)) &&& (255 : Int32))))) (7 : Int32).toNatClampNeg)) (cwV 1 hts gX7_adjust_X7_logic rfl rfl rfl (by decide +kernel) ⟨Nat.le_of_ble_eq_true rfl, Nat.le_of_ble_eq_true rfl⟩) ⟨fun a U g mk q => by obtain ⟨q0, q1, qP, qK, qD⟩ := q; exact ⟨q0, q1, qP, va_K.moved (u := U) (U := U.calling g mk a) (Vm.Alike.refl U.vm) qK, qD⟩, va_recv hKc hPc (ci := 7) (q0 := 0) rfl rfl, fun U hU hW => ⟨rfl, by rw [hU], by rw [hU]; exact hPc, va_K.moved hW.alike hKc, hDc.weaken (fun _ _ _ _ => trivial)⟩⟩ rfl rfl hl.1 rfl (lv_room (Nat.le_of_ble_eq_true rfl)) dX7_adjust_144 ⟨Nat.le_of_ble_eq_true rfl, Nat.le_of_ble_eq_true rfl⟩) hS (fun q _ h => hFc q h) hFc (fun u9 t H1 locs ht hvm hw hB hz1 hk1 hS => ?_)
          subst hw
          obtain ⟨hP1, hK1, hD1⟩ := hB
          rw [ht] at hP1
          obtain ⟨hP, hD⟩ := jM_M hP hD hk1 hFc hP1 hD1
          clear hPc hDc hKc hFc hz1 hk1 hP1 hK1 hD1 ht hvm
          generalize H1 = H at hP hS ⊢
          exact W.vret hx hb hr (fun t ht hW => ⟨⟨(f_X7_logic (sMW_r (sMW_c (sMW_h u false) true) (upd (gMW_r (sMW_c (sMW_h u false) true)) (7 : Int32).toNatClampNeg ((((gMW_r u) (7 : Int32).toNatClampNeg) + (96 : Int32)) &&& (255 : Int32)))) ((gMW_r (sMW_r (sMW_c (sMW_h u false) true) (upd (gMW_r (sMW_c (sMW_h u false) true)) (7 : Int32).toNatClampNeg ((((gMW_r u) (7 : Int32).toNatClampNeg) + (96 : Int32)) &&& (255 : Int32))))) (7 : Int32).toNatClampNeg)), rfl, (by simp only [f_X7_adjust, if_neg c2, if_pos c6, if_neg c7]), by rw [ht]; exact hP, va_K.moved hW.alike hK, hD⟩, hS.F ht⟩) hS.2.2 dX7_adjust_147
      · skip
        refine lv_iload hx hb dX7_adjust_74 (lv_at hl 0 rfl) ?_
        refine lv_bipush (v := 6) hx hb dX7_adjust_76 (by decide) ?_
        refine lv_iadd hx hb dX7_adjust_78 ?_
        refine lv_istore (lv' := [(4, .int (((gMW_r u) (7 : Int32).toNatClampNeg) + (6 : Int32))), (3, .int (bI (if (9 : Int32) < (((gMW_r u) (7 : Int32).toNatClampNeg) >>> ((4 : Int32) &&& 31)) then true else (if (bI (gMW_c u)) = (0 : Int32) then (if (((gMW_r u) (7 : Int32).toNatClampNeg) >>> ((4 : Int32) &&& 31)) = (9 : Int32) then (if (((gMW_r u) (7 : Int32).toNatClampNeg) &&& (15 : Int32)) ≤ (9 : Int32) then false else true : Bool) else false : Bool) else true : Bool) : Bool))), (0, .ref mO), (1, .int (((gMW_r u) (7 : Int32).toNatClampNeg) &&& (15 : Int32))), (2, .int (((gMW_r u) (7 : Int32).toNatClampNeg) >>> ((4 : Int32) &&& 31)))]) hx hb dX7_adjust_79 hl (by decide) rfl (fun ls hl => ?_)
        refine lv_aload_n hx hb dX7_adjust_81 rfl (lv_at hl 2 rfl) ?_
        refine lv_iload_n hx hb dX7_adjust_82 rfl (lv_at hl 3 rfl) ?_
        refine lv_bipush (v := 6) hx hb dX7_adjust_83 (by decide) ?_
        refine lv_iadd hx hb dX7_adjust_85 ?_
        refine lv_bipush (v := 15) hx hb dX7_adjust_86 (by decide) ?_
        refine jn_b (D := (dC, dI)) (cl := vwCl) (ws := (wM cI mO memA dskA rgA inA outA u)) (A := A) (H0 := s.heap) (nL := 5) 96 (if ((((gMW_r u) (7 : Int32).toNatClampNeg) &&& (15 : Int32)) + (6 : Int32)) ≤ (15 : Int32) then false else true : Bool) [(0, .ref mO), (1, .int (((gMW_r u) (7 : Int32).toNatClampNeg) &&& (15 : Int32))), (2, .int (((gMW_r u) (7 : Int32).toNatClampNeg) >>> ((4 : Int32) &&& 31))), (3, .int (bI (if (9 : Int32) < (((gMW_r u) (7 : Int32).toNatClampNeg) >>> ((4 : Int32) &&& 31)) then true else (if (bI (gMW_c u)) = (0 : Int32) then (if (((gMW_r u) (7 : Int32).toNatClampNeg) >>> ((4 : Int32) &&& 31)) = (9 : Int32) then (if (((gMW_r u) (7 : Int32).toNatClampNeg) &&& (15 : Int32)) ≤ (9 : Int32) then false else true : Bool) else false : Bool) else true : Bool) : Bool))), (4, .int (((gMW_r u) (7 : Int32).toNatClampNeg) + (6 : Int32)))] [.ref mO] (fun H locs ls hP hS hl => ?_) (fun hJ8 => ?_)
        · skip
          refine va_put (D := (dC, dI)) (ci := 7) (v := .int (bI (if ((((gMW_r u) (7 : Int32).toNatClampNeg) &&& (15 : Int32)) + (6 : Int32)) ≤ (15 : Int32) then false else true : Bool))) (ty := .boolean) (C := RX7) (T := TX7) (N := 30) hx hb hts iX7_adjust_X7 tyX7 tyX7_ok nmX7 hown hK hP hD hS 0 rfl rfl 6 (by decide) (hts _ qX7_adjust_2) (fun _ h9 => h9) rfl (by decide +kernel) (bI_nar (if ((((gMW_r u) (7 : Int32).toNatClampNeg) &&& (15 : Int32)) + (6 : Int32)) ≤ (15 : Int32) then false else true : Bool)) (bI_fit (if ((((gMW_r u) (7 : Int32).toNatClampNeg) &&& (15 : Int32)) + (6 : Int32)) ≤ (15 : Int32) then false else true : Bool)) (Nat.le_of_ble_eq_true rfl) dX7_adjust_96 (fun H locs hP hD hS => ?_)
          obtain ⟨hP, hD⟩ := pM_h hP hD
          refine lv_goto (tgt := 107) hx hb dX7_adjust_99 (by decide) ?_
          refine lv_iload_n hx hb dX7_adjust_107 rfl (lv_at hl 3 rfl) ?_
          refine lv_if_eq (tgt := 123) hx hb dX7_adjust_108 (by decide) (fun c9 => ?_) (fun c9 => ?_)
          · skip
            refine lv_aload_n hx hb dX7_adjust_123 rfl (lv_at hl 0 rfl) ?_
            refine va_get (D := (dC, dI)) (ci := 7) (v := .ref rgA) (C := RX7) (T := TX7) (N := 30) hx hb hts iX7_adjust_X7 hown hK hP 0 rfl rfl 3 (by decide) (hts _ qX7_adjust_0) (fun _ h9 => h9) rfl dX7_adjust_124 ?_
            refine lv_bipush (v := 7) hx hb dX7_adjust_127 (by decide) ?_
            refine lv_iload hx hb dX7_adjust_129 (lv_at hl 4 rfl) ?_
            refine lv_sipush (v := 255) hx hb dX7_adjust_131 (by decide) ?_
            refine lv_iand hx hb dX7_adjust_134 ?_
            refine va_iast (f := (gMW_r (sMW_h u (if ((((gMW_r u) (7 : Int32).toNatClampNeg) &&& (15 : Int32)) + (6 : Int32)) ≤ (15 : Int32) then false else true : Bool)))) hx hb hK hP hD hS 3 0 rfl rfl (ix_lit (by decide)) dX7_adjust_135 (fun H locs hP hD hS => ?_)
            obtain ⟨hP, hD⟩ := aM_rgA hP hD
            refine lv_aload_n hx hb dX7_adjust_136 rfl (lv_at hl 0 rfl) ?_
            refine lv_aload_n hx hb dX7_adjust_137 rfl (lv_at hl 0 rfl) ?_
            refine va_get (D := (dC, dI)) (ci := 7) (v := .ref rgA) (C := RX7) (T := TX7) (N := 30) hx hb hts iX7_adjust_X7 hown hK hP 0 rfl rfl 3 (by decide) (hts _ qX7_adjust_0) (fun _ h9 => h9) rfl dX7_adjust_138 ?_
            refine lv_bipush (v := 7) hx hb dX7_adjust_141 (by decide) ?_
            refine va_iald (f := (gMW_r (sMW_r (sMW_h u (if ((((gMW_r u) (7 : Int32).toNatClampNeg) &&& (15 : Int32)) + (6 : Int32)) ≤ (15 : Int32) then false else true : Bool)) (upd (gMW_r (sMW_h u (if ((((gMW_r u) (7 : Int32).toNatClampNeg) &&& (15 : Int32)) + (6 : Int32)) ≤ (15 : Int32) then false else true : Bool))) (7 : Int32).toNatClampNeg ((((gMW_r u) (7 : Int32).toNatClampNeg) + (6 : Int32)) &&& (255 : Int32)))))) hx hb hK hP 3 0 rfl rfl (ix_lit (by decide)) dX7_adjust_143 ?_
            obtain ⟨hPc, hDc, hFc⟩ := xM_M hP hD hS hA
            have hKc := hK.sub (tys' := [(cI, .int)]) [0] rfl
            refine va_callv (va_runV (As := [.int ((gMW_r (sMW_r (sMW_h u (if ((((gMW_r u) (7 : Int32).toNatClampNeg) &&& (15 : Int32)) + (6 : Int32)) ≤ (15 : Int32) then false else true : Bool)) (upd (gMW_r (sMW_h u (if ((((gMW_r u) (7 : Int32).toNatClampNeg) &&& (15 : Int32)) + (6 : Int32)) ≤ (15 : Int32) then false else true : Bool))) (7 : Int32).toNatClampNeg ((((gMW_r u) (7 : Int32).toNatClampNeg) + (6 : Int32)) &&& (255 : Int32))))) (7 : Int32).toNatClampNeg)]) (rest := []) ⟨hx, hb, hml, hown, hts⟩ (k_X7_logic l dC dI cI mO memA dskA rgA inA outA H.size (sMW_r (sMW_h u (if ((((gMW_r u) (7 : Int32).toNatClampNeg) &&& (15 : Int32)) + (6 : Int32)) ≤ (15 : Int32) then false else true : Bool)) (upd (gMW_r (sMW_h u (if ((((gMW_r u) (7 : Int32).toNatClampNeg) &&& (15 : Int32)) + (6 : Int32)) ≤ (15 : Int32) then false else true : Bool))) (7 : Int32).toNatClampNeg ((((gMW_r u) (7 : Int32).toNatClampNeg) + (6 : Int32)) &&& (255 : Int32)))) ((gMW_r (sMW_r (sMW_h u (if ((((gMW_r u) (7 : Int32).toNatClampNeg) &&& (15 : Int32)) + (6 : Int32)) ≤ (15 : Int32) then false else true : Bool)) (upd (gMW_r (sMW_h u (if ((((gMW_r u) (7 : Int32).toNatClampNeg) &&& (15 : Int32)) + (6 : Int32)) ≤ (15 : Int32) then false else true : Bool))) (7 : Int32).toNatClampNeg ((((gMW_r u) (7 : Int32).toNatClampNeg) + (6 : Int32)) &&& (255 : Int32))))) (7 : Int32).toNatClampNeg)) (cwV 1 hts gX7_adjust_X7_logic rfl rfl rfl (by decide +kernel) ⟨Nat.le_of_ble_eq_true rfl, Nat.le_of_ble_eq_true rfl⟩) ⟨fun a U g mk q => by obtain ⟨q0, q1, qP, qK, qD⟩ := q; exact ⟨q0, q1, qP, va_K.moved (u := U) (U := U.calling g mk a) (Vm.Alike.refl U.vm) qK, qD⟩, va_recv hKc hPc (ci := 7) (q0 := 0) rfl rfl, fun U hU hW => ⟨rfl, by rw [hU], by rw [hU]; exact hPc, va_K.moved hW.alike hKc, hDc.weaken (fun _ _ _ _ => trivial)⟩⟩ rfl rfl hl.1 rfl (lv_room (Nat.le_of_ble_eq_true rfl)) dX7_adjust_144 ⟨Nat.le_of_ble_eq_true rfl, Nat.le_of_ble_eq_true rfl⟩) hS (fun q _ h => hFc q h) hFc (fun u9 t H1 locs ht hvm hw hB hz1 hk1 hS => ?_)
            subst hw
            obtain ⟨hP1, hK1, hD1⟩ := hB
            rw [ht] at hP1
            obtain ⟨hP, hD⟩ := jM_M hP hD hk1 hFc hP1 hD1
            clear hPc hDc hKc hFc hz1 hk1 hP1 hK1 hD1 ht hvm
            generalize H1 = H at hP hS ⊢
            exact W.vret hx hb hr (fun t ht hW => ⟨⟨(f_X7_logic (sMW_r (sMW_h u (if ((((gMW_r u) (7 : Int32).toNatClampNeg) &&& (15 : Int32)) + (6 : Int32)) ≤ (15 : Int32) then false else true : Bool)) (upd (gMW_r (sMW_h u (if ((((gMW_r u) (7 : Int32).toNatClampNeg) &&& (15 : Int32)) + (6 : Int32)) ≤ (15 : Int32) then false else true : Bool))) (7 : Int32).toNatClampNeg ((((gMW_r u) (7 : Int32).toNatClampNeg) + (6 : Int32)) &&& (255 : Int32)))) ((gMW_r (sMW_r (sMW_h u (if ((((gMW_r u) (7 : Int32).toNatClampNeg) &&& (15 : Int32)) + (6 : Int32)) ≤ (15 : Int32) then false else true : Bool)) (upd (gMW_r (sMW_h u (if ((((gMW_r u) (7 : Int32).toNatClampNeg) &&& (15 : Int32)) + (6 : Int32)) ≤ (15 : Int32) then false else true : Bool))) (7 : Int32).toNatClampNeg ((((gMW_r u) (7 : Int32).toNatClampNeg) + (6 : Int32)) &&& (255 : Int32))))) (7 : Int32).toNatClampNeg)), rfl, (by simp only [f_X7_adjust, if_neg c2, if_neg c6, if_pos c9]), by rw [ht]; exact hP, va_K.moved hW.alike hK, hD⟩, hS.F ht⟩) hS.2.2 dX7_adjust_147
          · skip
            refine lv_iload hx hb dX7_adjust_111 (lv_at hl 4 rfl) ?_
            refine lv_bipush (v := 96) hx hb dX7_adjust_113 (by decide) ?_
            refine lv_iadd hx hb dX7_adjust_115 ?_
            refine lv_istore (lv' := [(4, .int ((((gMW_r u) (7 : Int32).toNatClampNeg) + (6 : Int32)) + (96 : Int32))), (0, .ref mO), (1, .int (((gMW_r u) (7 : Int32).toNatClampNeg) &&& (15 : Int32))), (2, .int (((gMW_r u) (7 : Int32).toNatClampNeg) >>> ((4 : Int32) &&& 31))), (3, .int (bI (if (9 : Int32) < (((gMW_r u) (7 : Int32).toNatClampNeg) >>> ((4 : Int32) &&& 31)) then true else (if (bI (gMW_c u)) = (0 : Int32) then (if (((gMW_r u) (7 : Int32).toNatClampNeg) >>> ((4 : Int32) &&& 31)) = (9 : Int32) then (if (((gMW_r u) (7 : Int32).toNatClampNeg) &&& (15 : Int32)) ≤ (9 : Int32) then false else true : Bool) else false : Bool) else true : Bool) : Bool)))]) hx hb dX7_adjust_116 hl (by decide) rfl (fun ls hl => ?_)
            refine lv_aload_n hx hb dX7_adjust_118 rfl (lv_at hl 1 rfl) ?_
            refine lv_iconst (v := 1) hx hb dX7_adjust_119 (by decide) ?_
            refine va_put (D := (dC, dI)) (ci := 7) (v := .int (bI true)) (ty := .boolean) (C := RX7) (T := TX7) (N := 30) hx hb hts iX7_adjust_X7 tyX7 tyX7_ok nmX7 hown hK hP hD hS 0 rfl rfl 8 (by decide) (hts _ qX7_adjust_1) (fun _ h9 => h9) rfl (by decide +kernel) (bI_nar true) (bI_fit true) (Nat.le_of_ble_eq_true rfl) dX7_adjust_120 (fun H locs hP hD hS => ?_)
            obtain ⟨hP, hD⟩ := pM_c hP hD
            refine lv_aload_n hx hb dX7_adjust_123 rfl (lv_at hl 1 rfl) ?_
            refine va_get (D := (dC, dI)) (ci := 7) (v := .ref rgA) (C := RX7) (T := TX7) (N := 30) hx hb hts iX7_adjust_X7 hown hK hP 0 rfl rfl 3 (by decide) (hts _ qX7_adjust_0) (fun _ h9 => h9) rfl dX7_adjust_124 ?_
            refine lv_bipush (v := 7) hx hb dX7_adjust_127 (by decide) ?_
            refine lv_iload hx hb dX7_adjust_129 (lv_at hl 0 rfl) ?_
            refine lv_sipush (v := 255) hx hb dX7_adjust_131 (by decide) ?_
            refine lv_iand hx hb dX7_adjust_134 ?_
            refine va_iast (f := (gMW_r (sMW_c (sMW_h u (if ((((gMW_r u) (7 : Int32).toNatClampNeg) &&& (15 : Int32)) + (6 : Int32)) ≤ (15 : Int32) then false else true : Bool)) true))) hx hb hK hP hD hS 3 0 rfl rfl (ix_lit (by decide)) dX7_adjust_135 (fun H locs hP hD hS => ?_)
            obtain ⟨hP, hD⟩ := aM_rgA hP hD
            refine lv_aload_n hx hb dX7_adjust_136 rfl (lv_at hl 1 rfl) ?_
            refine lv_aload_n hx hb dX7_adjust_137 rfl (lv_at hl 1 rfl) ?_
            refine va_get (D := (dC, dI)) (ci := 7) (v := .ref rgA) (C := RX7) (T := TX7) (N := 30) hx hb hts iX7_adjust_X7 hown hK hP 0 rfl rfl 3 (by decide) (hts _ qX7_adjust_0) (fun _ h9 => h9) rfl dX7_adjust_138 ?_
            refine lv_bipush (v := 7) hx hb dX7_adjust_141 (by decide) ?_
            refine va_iald (f := (gMW_r (sMW_r (sMW_c (sMW_h u (if ((((gMW_r u) (7 : Int32).toNatClampNeg) &&& (15 : Int32)) + (6 : Int32)) ≤ (15 : Int32) then false else true : Bool)) true) (upd (gMW_r (sMW_c (sMW_h u (if ((((gMW_r u) (7 : Int32).toNatClampNeg) &&& (15 : Int32)) + (6 : Int32)) ≤ (15 : Int32) then false else true : Bool)) true)) (7 : Int32).toNatClampNeg (((((gMW_r u) (7 : Int32).toNatClampNeg) + (6 : Int32)) + (96 : Int32)) &&& (255 : Int32)))))) hx hb hK hP 3 0 rfl rfl (ix_lit (by decide)) dX7_adjust_143 ?_
            obtain ⟨hPc, hDc, hFc⟩ := xM_M hP hD hS hA
            have hKc := hK.sub (tys' := [(cI, .int)]) [0] rfl
            refine va_callv (va_runV (As := [.int ((gMW_r (sMW_r (sMW_c (sMW_h u (if ((((gMW_r u) (7 : Int32).toNatClampNeg) &&& (15 : Int32)) + (6 : Int32)) ≤ (15 : Int32) then false else true : Bool)) true) (upd (gMW_r (sMW_c (sMW_h u (if ((((gMW_r u) (7 : Int32).toNatClampNeg) &&& (15 : Int32)) + (6 : Int32)) ≤ (15 : Int32) then false else true : Bool)) true)) (7 : Int32).toNatClampNeg (((((gMW_r u) (7 : Int32).toNatClampNeg) + (6 : Int32)) + (96 : Int32)) &&& (255 : Int32))))) (7 : Int32).toNatClampNeg)]) (rest := []) ⟨hx, hb, hml, hown, hts⟩ (k_X7_logic l dC dI cI mO memA dskA rgA inA outA H.size (sMW_r (sMW_c (sMW_h u (if ((((gMW_r u) (7 : Int32).toNatClampNeg) &&& (15 : Int32)) + (6 : Int32)) ≤ (15 : Int32) then false else true : Bool)) true) (upd (gMW_r (sMW_c (sMW_h u (if ((((gMW_r u) (7 : Int32).toNatClampNeg) &&& (15 : Int32)) + (6 : Int32)) ≤ (15 : Int32) then false else true : Bool)) true)) (7 : Int32).toNatClampNeg (((((gMW_r u) (7 : Int32).toNatClampNeg) + (6 : Int32)) + (96 : Int32)) &&& (255 : Int32)))) ((gMW_r (sMW_r (sMW_c (sMW_h u (if ((((gMW_r u) (7 : Int32).toNatClampNeg) &&& (15 : Int32)) + (6 : Int32)) ≤ (15 : Int32) then false else true : Bool)) true) (upd (gMW_r (sMW_c (sMW_h u (if ((((gMW_r u) (7 : Int32).toNatClampNeg) &&& (15 : Int32)) + (6 : Int32)) ≤ (15 : Int32) then false else true : Bool)) true)) (7 : Int32).toNatClampNeg (((((gMW_r u) (7 : Int32).toNatClampNeg) + (6 : Int32)) + (96 : Int32)) &&& (255 : Int32))))) (7 : Int32).toNatClampNeg)) (cwV 1 hts gX7_adjust_X7_logic rfl rfl rfl (by decide +kernel) ⟨Nat.le_of_ble_eq_true rfl, Nat.le_of_ble_eq_true rfl⟩) ⟨fun a U g mk q => by obtain ⟨q0, q1, qP, qK, qD⟩ := q; exact ⟨q0, q1, qP, va_K.moved (u := U) (U := U.calling g mk a) (Vm.Alike.refl U.vm) qK, qD⟩, va_recv hKc hPc (ci := 7) (q0 := 0) rfl rfl, fun U hU hW => ⟨rfl, by rw [hU], by rw [hU]; exact hPc, va_K.moved hW.alike hKc, hDc.weaken (fun _ _ _ _ => trivial)⟩⟩ rfl rfl hl.1 rfl (lv_room (Nat.le_of_ble_eq_true rfl)) dX7_adjust_144 ⟨Nat.le_of_ble_eq_true rfl, Nat.le_of_ble_eq_true rfl⟩) hS (fun q _ h => hFc q h) hFc (fun u9 t H1 locs ht hvm hw hB hz1 hk1 hS => ?_)
            subst hw
            obtain ⟨hP1, hK1, hD1⟩ := hB
            rw [ht] at hP1
            obtain ⟨hP, hD⟩ := jM_M hP hD hk1 hFc hP1 hD1
            clear hPc hDc hKc hFc hz1 hk1 hP1 hK1 hD1 ht hvm
            generalize H1 = H at hP hS ⊢
            exact W.vret hx hb hr (fun t ht hW => ⟨⟨(f_X7_logic (sMW_r (sMW_c (sMW_h u (if ((((gMW_r u) (7 : Int32).toNatClampNeg) &&& (15 : Int32)) + (6 : Int32)) ≤ (15 : Int32) then false else true : Bool)) true) (upd (gMW_r (sMW_c (sMW_h u (if ((((gMW_r u) (7 : Int32).toNatClampNeg) &&& (15 : Int32)) + (6 : Int32)) ≤ (15 : Int32) then false else true : Bool)) true)) (7 : Int32).toNatClampNeg (((((gMW_r u) (7 : Int32).toNatClampNeg) + (6 : Int32)) + (96 : Int32)) &&& (255 : Int32)))) ((gMW_r (sMW_r (sMW_c (sMW_h u (if ((((gMW_r u) (7 : Int32).toNatClampNeg) &&& (15 : Int32)) + (6 : Int32)) ≤ (15 : Int32) then false else true : Bool)) true) (upd (gMW_r (sMW_c (sMW_h u (if ((((gMW_r u) (7 : Int32).toNatClampNeg) &&& (15 : Int32)) + (6 : Int32)) ≤ (15 : Int32) then false else true : Bool)) true)) (7 : Int32).toNatClampNeg (((((gMW_r u) (7 : Int32).toNatClampNeg) + (6 : Int32)) + (96 : Int32)) &&& (255 : Int32))))) (7 : Int32).toNatClampNeg)), rfl, (by simp only [f_X7_adjust, if_neg c2, if_neg c6, if_neg c9]), by rw [ht]; exact hP, va_K.moved hW.alike hK, hD⟩, hS.F ht⟩) hS.2.2 dX7_adjust_147
        · skip
          refine lv_icmp_le (tgt := 95) hx hb dX7_adjust_88 (by decide) (fun c10 => ?_) (fun c10 => ?_)
          · skip
            refine lv_iconst (v := 0) hx hb dX7_adjust_95 (by decide) ?_
            exact hJ8 false _ _ _ (by simp only [if_pos c10]) hP hS (lv_sub hl [2, 3, 4, 1, 0] rfl)
          · skip
            refine lv_iconst (v := 1) hx hb dX7_adjust_91 (by decide) ?_
            refine lv_goto (tgt := 96) hx hb dX7_adjust_92 (by decide) ?_
            exact hJ8 true _ _ _ (by simp only [if_neg c10]) hP hS (lv_sub hl [2, 3, 4, 1, 0] rfl)
  · skip
    refine lv_icmp_gt (tgt := 46) hx hb dX7_adjust_24 (by decide) (fun c11 => ?_) (fun c11 => ?_)
    · skip
      refine lv_iconst (v := 1) hx hb dX7_adjust_46 (by decide) ?_
      refine lv_goto (tgt := 51) hx hb dX7_adjust_47 (by decide) ?_
      exact hJ1 true _ _ _ (by simp only [if_pos c11]) hP hS (lv_sub hl [2, 1, 0] rfl)
    · skip
      refine lv_aload_n hx hb dX7_adjust_27 rfl (lv_at hl 2 rfl) ?_
      refine va_get (D := (dC, dI)) (ci := 7) (v := .int (bI (gMW_c u))) (C := RX7) (T := TX7) (N := 30) hx hb hts iX7_adjust_X7 hown hK hP 0 rfl rfl 8 (by decide) (hts _ qX7_adjust_1) (fun _ h9 => h9) rfl dX7_adjust_28 ?_
      refine jn_b (D := (dC, dI)) (cl := vwCl) (ws := (wM cI mO memA dskA rgA inA outA u)) (A := A) (H0 := s.heap) (nL := 5) 51 (if (bI (gMW_c u)) = (0 : Int32) then (if (((gMW_r u) (7 : Int32).toNatClampNeg) >>> ((4 : Int32) &&& 31)) = (9 : Int32) then (if (((gMW_r u) (7 : Int32).toNatClampNeg) &&& (15 : Int32)) ≤ (9 : Int32) then false else true : Bool) else false : Bool) else true : Bool) [(0, .ref mO), (1, .int (((gMW_r u) (7 : Int32).toNatClampNeg) &&& (15 : Int32))), (2, .int (((gMW_r u) (7 : Int32).toNatClampNeg) >>> ((4 : Int32) &&& 31)))] [] (fun H locs ls hP hS hl => ?_) (fun hJ12 => ?_)
      · skip
        exact hJ1 (if (bI (gMW_c u)) = (0 : Int32) then (if (((gMW_r u) (7 : Int32).toNatClampNeg) >>> ((4 : Int32) &&& 31)) = (9 : Int32) then (if (((gMW_r u) (7 : Int32).toNatClampNeg) &&& (15 : Int32)) ≤ (9 : Int32) then false else true : Bool) else false : Bool) else true : Bool) _ _ _ (by simp only [if_neg c11]) hP hS (lv_sub hl [0, 1, 2] rfl)
      · skip
        refine lv_if_ne (tgt := 46) hx hb dX7_adjust_31 (by decide) (fun c13 => ?_) (fun c13 => ?_)
        · skip
          refine lv_iconst (v := 1) hx hb dX7_adjust_46 (by decide) ?_
          refine lv_goto (tgt := 51) hx hb dX7_adjust_47 (by decide) ?_
          exact hJ12 true _ _ _ (by simp only [if_neg c13]) hP hS (lv_sub hl [2, 1, 0] rfl)
        · skip
          refine lv_iload_n hx hb dX7_adjust_34 rfl (lv_at hl 0 rfl) ?_
          refine lv_bipush (v := 9) hx hb dX7_adjust_35 (by decide) ?_
          refine jn_b (D := (dC, dI)) (cl := vwCl) (ws := (wM cI mO memA dskA rgA inA outA u)) (A := A) (H0 := s.heap) (nL := 5) 51 (if (((gMW_r u) (7 : Int32).toNatClampNeg) >>> ((4 : Int32) &&& 31)) = (9 : Int32) then (if (((gMW_r u) (7 : Int32).toNatClampNeg) &&& (15 : Int32)) ≤ (9 : Int32) then false else true : Bool) else false : Bool) [(0, .ref mO), (1, .int (((gMW_r u) (7 : Int32).toNatClampNeg) &&& (15 : Int32))), (2, .int (((gMW_r u) (7 : Int32).toNatClampNeg) >>> ((4 : Int32) &&& 31)))] [] (fun H locs ls hP hS hl => ?_) (fun hJ14 => ?_)
          · skip
            exact hJ12 (if (((gMW_r u) (7 : Int32).toNatClampNeg) >>> ((4 : Int32) &&& 31)) = (9 : Int32) then (if (((gMW_r u) (7 : Int32).toNatClampNeg) &&& (15 : Int32)) ≤ (9 : Int32) then false else true : Bool) else false : Bool) _ _ _ (by simp only [if_pos c13]) hP hS (lv_sub hl [0, 1, 2] rfl)
          · skip
            refine lv_icmp_ne (tgt := 50) hx hb dX7_adjust_37 (by decide) (fun c15 => ?_) (fun c15 => ?_)
            · skip
              refine lv_iconst (v := 0) hx hb dX7_adjust_50 (by decide) ?_
              exact hJ14 false _ _ _ (by simp only [if_neg c15]) hP hS (lv_sub hl [2, 1, 0] rfl)
            · skip
              refine lv_iload_n hx hb dX7_adjust_40 rfl (lv_at hl 1 rfl) ?_
              refine lv_bipush (v := 9) hx hb dX7_adjust_41 (by decide) ?_
              refine jn_b (D := (dC, dI)) (cl := vwCl) (ws := (wM cI mO memA dskA rgA inA outA u)) (A := A) (H0 := s.heap) (nL := 5) 51 (if (((gMW_r u) (7 : Int32).toNatClampNeg) &&& (15 : Int32)) ≤ (9 : Int32) then false else true : Bool) [(0, .ref mO), (1, .int (((gMW_r u) (7 : Int32).toNatClampNeg) &&& (15 : Int32))), (2, .int (((gMW_r u) (7 : Int32).toNatClampNeg) >>> ((4 : Int32) &&& 31)))] [] (fun H locs ls hP hS hl => ?_) (fun hJ16 => ?_)
              · skip
                exact hJ14 (if (((gMW_r u) (7 : Int32).toNatClampNeg) &&& (15 : Int32)) ≤ (9 : Int32) then false else true : Bool) _ _ _ (by simp only [if_pos c15]) hP hS (lv_sub hl [0, 1, 2] rfl)
              · skip
                refine lv_icmp_le (tgt := 50) hx hb dX7_adjust_43 (by decide) (fun c17 => ?_) (fun c17 => ?_)
                · skip
                  refine lv_iconst (v := 0) hx hb dX7_adjust_50 (by decide) ?_
                  exact hJ16 false _ _ _ (by simp only [if_pos c17]) hP hS (lv_sub hl [2, 1, 0] rfl)
                · skip
                  refine lv_iconst (v := 1) hx hb dX7_adjust_46 (by decide) ?_
                  refine lv_goto (tgt := 51) hx hb dX7_adjust_47 (by decide) ?_
                  exact hJ16 true _ _ _ (by simp only [if_neg c17]) hP hS (lv_sub hl [2, 1, 0] rfl)

def f_X7_turn (u : MW) (a1 : Int32) : MW := 
  if a1 = 0 then (sMW_r (sMW_c u (if ((gMW_r u) (7 : Int32).toNatClampNeg) ≤ (127 : Int32) then false else true : Bool)) (upd (gMW_r (sMW_c u (if ((gMW_r u) (7 : Int32).toNatClampNeg) ≤ (127 : Int32) then false else true : Bool))) (7 : Int32).toNatClampNeg (((((gMW_r u) (7 : Int32).toNatClampNeg) <<< ((1 : Int32) &&& 31)) &&& (255 : Int32)) ||| (((gMW_r u) (7 : Int32).toNatClampNeg) >>> ((7 : Int32) &&& 31)))))
  else 
    if a1 = 1 then (sMW_r (sMW_c u (if (((gMW_r u) (7 : Int32).toNatClampNeg) &&& (1 : Int32)) = (1 : Int32) then true else false : Bool)) (upd (gMW_r (sMW_c u (if (((gMW_r u) (7 : Int32).toNatClampNeg) &&& (1 : Int32)) = (1 : Int32) then true else false : Bool))) (7 : Int32).toNatClampNeg ((((gMW_r u) (7 : Int32).toNatClampNeg) >>> ((1 : Int32) &&& 31)) ||| ((((gMW_r u) (7 : Int32).toNatClampNeg) &&& (1 : Int32)) <<< ((7 : Int32) &&& 31)))))
    else 
      if a1 = 2 then (sMW_r (sMW_c u (if ((gMW_r u) (7 : Int32).toNatClampNeg) ≤ (127 : Int32) then false else true : Bool)) (upd (gMW_r (sMW_c u (if ((gMW_r u) (7 : Int32).toNatClampNeg) ≤ (127 : Int32) then false else true : Bool))) (7 : Int32).toNatClampNeg (((((gMW_r u) (7 : Int32).toNatClampNeg) <<< ((1 : Int32) &&& 31)) &&& (255 : Int32)) ||| (bI (if (bI (gMW_c u)) = (0 : Int32) then false else true : Bool)))))
      else 
        if a1 = 3 then (sMW_r (sMW_c u (if (((gMW_r u) (7 : Int32).toNatClampNeg) &&& (1 : Int32)) = (1 : Int32) then true else false : Bool)) (upd (gMW_r (sMW_c u (if (((gMW_r u) (7 : Int32).toNatClampNeg) &&& (1 : Int32)) = (1 : Int32) then true else false : Bool))) (7 : Int32).toNatClampNeg ((((gMW_r u) (7 : Int32).toNatClampNeg) >>> ((1 : Int32) &&& 31)) ||| ((bI (if (bI (gMW_c u)) = (0 : Int32) then false else true : Bool)) <<< ((7 : Int32) &&& 31)))))
        else 
          if a1 = 4 then (f_X7_adjust u)
          else 
            if a1 = 5 then (sMW_r u (upd (gMW_r u) (7 : Int32).toNatClampNeg ((255 : Int32) - ((gMW_r u) (7 : Int32).toNatClampNeg))))
            else 
              if a1 = 6 then (sMW_c u true)
              else (sMW_c u (if (bI (gMW_c u)) = (0 : Int32) then true else false : Bool))
theorem qX7_turn_0 : Cond.fieldLink RX7 16 "DiskMachineModel" "\x72" "[I" ∈ wsX7_turn := by decide +kernel
theorem qX7_turn_1 : Cond.fieldLink RX7 80 "DiskMachineModel" "carry" "Z" ∈ wsX7_turn := by decide +kernel
theorem iX7_turn_X7 : ∀ w ∈ wsX70, w ∈ wsX7_turn := by decide +kernel
set_option maxHeartbeats 4000000 in
set_option maxRecDepth 100000 in
theorem k_X7_turn (l : Launch) (dC : Nat → ClassId) (dI : Nat → Nat → Nat) (cI : ClassId) (mO memA dskA rgA inA outA : Nat) (sz : Nat) (u : MW) (a1 : Int32) : Met l yX7_turn wsX7_turn ({ frames := 2, cells := 0, slots := 0, locals := 47 }) (va_Pc [.ref mO, .int a1] (wB dC dI [(cI, .int)] sz (wM cI mO memA dskA rgA inA outA u))) (va_Qv (fun u' : MW => u' = (f_X7_turn u a1)) (fun u' => wE dC dI [(cI, .int)] (va_A (wM cI mO memA dskA rgA inA outA u) sz) (wM cI mO memA dskA rgA inA outA u')) (va_A (wM cI mO memA dskA rgA inA outA u) sz)) 0 0 (va_A (wM cI mO memA dskA rgA inA outA u) sz) := by
  refine Met.ofW (cc := cX7_turn) (maxL := 4) (ret := none) (by decide) rfl ?_
  intro p e s m args below meth c s₁ B hml hv
  obtain ⟨rfl, hsz, hP, hK, hD0⟩ := hv
  have hx := B.exec
  have hb := B.bytes
  have hr := B.returns
  have hts := atoms_spec (ws := wsX7_turn) B.pre
  have hown : s.vm.findClass RX7 = some m.cls := findClass_of_methodNamed B.named
  have hlocks := B.notSynchronized
  subst hsz
  have hD := hD0.self (sz := s.heap.size)
  generalize hAe : va_A (wM cI mO memA dskA rgA inA outA u) s.heap.size = A at hD ⊢
  have hA : ∀ q : Nat, s.heap.size ≤ q → A q := fun q h => by rw [← hAe]; exact Or.inr h
  have hS : va_S A s.heap s.heap [] := va_S.rf
  have hP : va_P (dC, dI) vwCl (wM cI mO memA dskA rgA inA outA u) s.heap := hP
  clear hAe hD0
  have hl := lv_entry ([.ref mO, .int a1]) (n := 4) (Nat.le_of_ble_eq_true rfl)
  rw [lg_entry_eq]
  generalize (lg_sl ([.ref mO, .int a1]) ++ List.replicate (4 - (lg_sl ([.ref mO, .int a1])).length) Slot.unset).toArray = ls at hl ⊢
  have hl : lv_has ls 4 [(0, .ref mO), (1, .int a1)] := hl
  refine jn_H hP hS (fun H locs hP hS => ?_)
  refine lv_aload_n hx hb dX7_turn_0 rfl (lv_at hl 0 rfl) ?_
  refine va_get (D := (dC, dI)) (ci := 7) (v := .ref rgA) (C := RX7) (T := TX7) (N := 30) hx hb hts iX7_turn_X7 hown hK hP 0 rfl rfl 3 (by decide) (hts _ qX7_turn_0) (fun _ h9 => h9) rfl dX7_turn_1 ?_
  refine lv_bipush (v := 7) hx hb dX7_turn_4 (by decide) ?_
  refine va_iald (f := (gMW_r u)) hx hb hK hP 3 0 rfl rfl (ix_lit (by decide)) dX7_turn_6 ?_
  refine lv_istore_n (lv' := [(2, .int ((gMW_r u) (7 : Int32).toNatClampNeg)), (0, .ref mO), (1, .int a1)]) hx hb dX7_turn_7 rfl hl (by decide) rfl (fun ls hl => ?_)
  refine lv_aload_n hx hb dX7_turn_8 rfl (lv_at hl 1 rfl) ?_
  refine va_get (D := (dC, dI)) (ci := 7) (v := .int (bI (gMW_c u))) (C := RX7) (T := TX7) (N := 30) hx hb hts iX7_turn_X7 hown hK hP 0 rfl rfl 8 (by decide) (hts _ qX7_turn_1) (fun _ h9 => h9) rfl dX7_turn_9 ?_
  refine jn_b (D := (dC, dI)) (cl := vwCl) (ws := (wM cI mO memA dskA rgA inA outA u)) (A := A) (H0 := s.heap) (nL := 4) 20 (if (bI (gMW_c u)) = (0 : Int32) then false else true : Bool) [(0, .ref mO), (1, .int a1), (2, .int ((gMW_r u) (7 : Int32).toNatClampNeg))] [] (fun H locs ls hP hS hl => ?_) (fun hJ1 => ?_)
  · skip
    refine lv_istore_n (lv' := [(3, .int (bI (if (bI (gMW_c u)) = (0 : Int32) then false else true : Bool))), (0, .ref mO), (1, .int a1), (2, .int ((gMW_r u) (7 : Int32).toNatClampNeg))]) hx hb dX7_turn_20 rfl hl (by decide) rfl (fun ls hl => ?_)
    refine lv_iload_n hx hb dX7_turn_21 rfl (lv_at hl 2 rfl) ?_
    by_cases c2 : a1 = 0
    · refine tb_in (k := 0) (off := 42) (tgt := 64) hx hb dX7_turn_22 c2 (by decide) (by decide) (by decide) (by decide) ?_
      refine lv_aload_n hx hb dX7_turn_64 rfl (lv_at hl 1 rfl) ?_
      refine lv_iload_n hx hb dX7_turn_65 rfl (lv_at hl 3 rfl) ?_
      refine lv_bipush (v := 127) hx hb dX7_turn_66 (by decide) ?_
      refine jn_b (D := (dC, dI)) (cl := vwCl) (ws := (wM cI mO memA dskA rgA inA outA u)) (A := A) (H0 := s.heap) (nL := 4) 76 (if ((gMW_r u) (7 : Int32).toNatClampNeg) ≤ (127 : Int32) then false else true : Bool) [(0, .ref mO), (1, .int a1), (2, .int ((gMW_r u) (7 : Int32).toNatClampNeg)), (3, .int (bI (if (bI (gMW_c u)) = (0 : Int32) then false else true : Bool)))] [.ref mO] (fun H locs ls hP hS hl => ?_) (fun hJ3 => ?_)
      · skip
        refine va_put (D := (dC, dI)) (ci := 7) (v := .int (bI (if ((gMW_r u) (7 : Int32).toNatClampNeg) ≤ (127 : Int32) then false else true : Bool))) (ty := .boolean) (C := RX7) (T := TX7) (N := 30) hx hb hts iX7_turn_X7 tyX7 tyX7_ok nmX7 hown hK hP hD hS 0 rfl rfl 8 (by decide) (hts _ qX7_turn_1) (fun _ h9 => h9) rfl (by decide +kernel) (bI_nar (if ((gMW_r u) (7 : Int32).toNatClampNeg) ≤ (127 : Int32) then false else true : Bool)) (bI_fit (if ((gMW_r u) (7 : Int32).toNatClampNeg) ≤ (127 : Int32) then false else true : Bool)) (Nat.le_of_ble_eq_true rfl) dX7_turn_76 (fun H locs hP hD hS => ?_)
        obtain ⟨hP, hD⟩ := pM_c hP hD
        refine lv_aload_n hx hb dX7_turn_79 rfl (lv_at hl 0 rfl) ?_
        refine va_get (D := (dC, dI)) (ci := 7) (v := .ref rgA) (C := RX7) (T := TX7) (N := 30) hx hb hts iX7_turn_X7 hown hK hP 0 rfl rfl 3 (by decide) (hts _ qX7_turn_0) (fun _ h9 => h9) rfl dX7_turn_80 ?_
        refine lv_bipush (v := 7) hx hb dX7_turn_83 (by decide) ?_
        refine lv_iload_n hx hb dX7_turn_85 rfl (lv_at hl 2 rfl) ?_
        refine lv_iconst (v := 1) hx hb dX7_turn_86 (by decide) ?_
        refine lv_ishl hx hb dX7_turn_87 ?_
        refine lv_sipush (v := 255) hx hb dX7_turn_88 (by decide) ?_
        refine lv_iand hx hb dX7_turn_91 ?_
        refine lv_iload_n hx hb dX7_turn_92 rfl (lv_at hl 2 rfl) ?_
        refine lv_bipush (v := 7) hx hb dX7_turn_93 (by decide) ?_
        refine lv_ishr hx hb dX7_turn_95 ?_
        refine lv_ior hx hb dX7_turn_96 ?_
        refine va_iast (f := (gMW_r (sMW_c u (if ((gMW_r u) (7 : Int32).toNatClampNeg) ≤ (127 : Int32) then false else true : Bool)))) hx hb hK hP hD hS 3 0 rfl rfl (ix_lit (by decide)) dX7_turn_97 (fun H locs hP hD hS => ?_)
        obtain ⟨hP, hD⟩ := aM_rgA hP hD
        refine lv_goto (tgt := 251) hx hb dX7_turn_98 (by decide) ?_
        exact W.vret hx hb hr (fun t ht hW => ⟨⟨(sMW_r (sMW_c u (if ((gMW_r u) (7 : Int32).toNatClampNeg) ≤ (127 : Int32) then false else true : Bool)) (upd (gMW_r (sMW_c u (if ((gMW_r u) (7 : Int32).toNatClampNeg) ≤ (127 : Int32) then false else true : Bool))) (7 : Int32).toNatClampNeg (((((gMW_r u) (7 : Int32).toNatClampNeg) <<< ((1 : Int32) &&& 31)) &&& (255 : Int32)) ||| (((gMW_r u) (7 : Int32).toNatClampNeg) >>> ((7 : Int32) &&& 31))))), rfl, (by simp only [f_X7_turn, if_pos c2]), by rw [ht]; exact hP, va_K.moved hW.alike hK, hD⟩, hS.F ht⟩) hS.2.2 dX7_turn_251
      · skip
        refine lv_icmp_le (tgt := 75) hx hb dX7_turn_68 (by decide) (fun c4 => ?_) (fun c4 => ?_)
        · skip
          refine lv_iconst (v := 0) hx hb dX7_turn_75 (by decide) ?_
          exact hJ3 false _ _ _ (by simp only [if_pos c4]) hP hS (lv_sub hl [1, 2, 3, 0] rfl)
        · skip
          refine lv_iconst (v := 1) hx hb dX7_turn_71 (by decide) ?_
          refine lv_goto (tgt := 76) hx hb dX7_turn_72 (by decide) ?_
          exact hJ3 true _ _ _ (by simp only [if_neg c4]) hP hS (lv_sub hl [1, 2, 3, 0] rfl)
    · skip
      by_cases c5 : a1 = 1
      · refine tb_in (k := 1) (off := 79) (tgt := 101) hx hb dX7_turn_22 c5 (by decide) (by decide) (by decide) (by decide) ?_
        refine lv_aload_n hx hb dX7_turn_101 rfl (lv_at hl 1 rfl) ?_
        refine lv_iload_n hx hb dX7_turn_102 rfl (lv_at hl 3 rfl) ?_
        refine lv_iconst (v := 1) hx hb dX7_turn_103 (by decide) ?_
        refine lv_iand hx hb dX7_turn_104 ?_
        refine lv_iconst (v := 1) hx hb dX7_turn_105 (by decide) ?_
        refine jn_b (D := (dC, dI)) (cl := vwCl) (ws := (wM cI mO memA dskA rgA inA outA u)) (A := A) (H0 := s.heap) (nL := 4) 114 (if (((gMW_r u) (7 : Int32).toNatClampNeg) &&& (1 : Int32)) = (1 : Int32) then true else false : Bool) [(0, .ref mO), (1, .int a1), (2, .int ((gMW_r u) (7 : Int32).toNatClampNeg)), (3, .int (bI (if (bI (gMW_c u)) = (0 : Int32) then false else true : Bool)))] [.ref mO] (fun H locs ls hP hS hl => ?_) (fun hJ6 => ?_)
        · skip
          refine va_put (D := (dC, dI)) (ci := 7) (v := .int (bI (if (((gMW_r u) (7 : Int32).toNatClampNeg) &&& (1 : Int32)) = (1 : Int32) then true else false : Bool))) (ty := .boolean) (C := RX7) (T := TX7) (N := 30) hx hb hts iX7_turn_X7 tyX7 tyX7_ok nmX7 hown hK hP hD hS 0 rfl rfl 8 (by decide) (hts _ qX7_turn_1) (fun _ h9 => h9) rfl (by decide +kernel) (bI_nar (if (((gMW_r u) (7 : Int32).toNatClampNeg) &&& (1 : Int32)) = (1 : Int32) then true else false : Bool)) (bI_fit (if (((gMW_r u) (7 : Int32).toNatClampNeg) &&& (1 : Int32)) = (1 : Int32) then true else false : Bool)) (Nat.le_of_ble_eq_true rfl) dX7_turn_114 (fun H locs hP hD hS => ?_)
          obtain ⟨hP, hD⟩ := pM_c hP hD
          refine lv_aload_n hx hb dX7_turn_117 rfl (lv_at hl 0 rfl) ?_
          refine va_get (D := (dC, dI)) (ci := 7) (v := .ref rgA) (C := RX7) (T := TX7) (N := 30) hx hb hts iX7_turn_X7 hown hK hP 0 rfl rfl 3 (by decide) (hts _ qX7_turn_0) (fun _ h9 => h9) rfl dX7_turn_118 ?_
          refine lv_bipush (v := 7) hx hb dX7_turn_121 (by decide) ?_
          refine lv_iload_n hx hb dX7_turn_123 rfl (lv_at hl 2 rfl) ?_
          refine lv_iconst (v := 1) hx hb dX7_turn_124 (by decide) ?_
          refine lv_ishr hx hb dX7_turn_125 ?_
          refine lv_iload_n hx hb dX7_turn_126 rfl (lv_at hl 2 rfl) ?_
          refine lv_iconst (v := 1) hx hb dX7_turn_127 (by decide) ?_
          refine lv_iand hx hb dX7_turn_128 ?_
          refine lv_bipush (v := 7) hx hb dX7_turn_129 (by decide) ?_
          refine lv_ishl hx hb dX7_turn_131 ?_
          refine lv_ior hx hb dX7_turn_132 ?_
          refine va_iast (f := (gMW_r (sMW_c u (if (((gMW_r u) (7 : Int32).toNatClampNeg) &&& (1 : Int32)) = (1 : Int32) then true else false : Bool)))) hx hb hK hP hD hS 3 0 rfl rfl (ix_lit (by decide)) dX7_turn_133 (fun H locs hP hD hS => ?_)
          obtain ⟨hP, hD⟩ := aM_rgA hP hD
          refine lv_goto (tgt := 251) hx hb dX7_turn_134 (by decide) ?_
          exact W.vret hx hb hr (fun t ht hW => ⟨⟨(sMW_r (sMW_c u (if (((gMW_r u) (7 : Int32).toNatClampNeg) &&& (1 : Int32)) = (1 : Int32) then true else false : Bool)) (upd (gMW_r (sMW_c u (if (((gMW_r u) (7 : Int32).toNatClampNeg) &&& (1 : Int32)) = (1 : Int32) then true else false : Bool))) (7 : Int32).toNatClampNeg ((((gMW_r u) (7 : Int32).toNatClampNeg) >>> ((1 : Int32) &&& 31)) ||| ((((gMW_r u) (7 : Int32).toNatClampNeg) &&& (1 : Int32)) <<< ((7 : Int32) &&& 31))))), rfl, (by simp only [f_X7_turn, if_neg c2, if_pos c5]), by rw [ht]; exact hP, va_K.moved hW.alike hK, hD⟩, hS.F ht⟩) hS.2.2 dX7_turn_251
        · skip
          refine lv_icmp_ne (tgt := 113) hx hb dX7_turn_106 (by decide) (fun c7 => ?_) (fun c7 => ?_)
          · skip
            refine lv_iconst (v := 0) hx hb dX7_turn_113 (by decide) ?_
            exact hJ6 false _ _ _ (by simp only [if_neg c7]) hP hS (lv_sub hl [1, 2, 3, 0] rfl)
          · skip
            refine lv_iconst (v := 1) hx hb dX7_turn_109 (by decide) ?_
            refine lv_goto (tgt := 114) hx hb dX7_turn_110 (by decide) ?_
            exact hJ6 true _ _ _ (by simp only [if_pos c7]) hP hS (lv_sub hl [1, 2, 3, 0] rfl)
      · skip
        by_cases c8 : a1 = 2
        · refine tb_in (k := 2) (off := 115) (tgt := 137) hx hb dX7_turn_22 c8 (by decide) (by decide) (by decide) (by decide) ?_
          refine lv_aload_n hx hb dX7_turn_137 rfl (lv_at hl 1 rfl) ?_
          refine lv_iload_n hx hb dX7_turn_138 rfl (lv_at hl 3 rfl) ?_
          refine lv_bipush (v := 127) hx hb dX7_turn_139 (by decide) ?_
          refine jn_b (D := (dC, dI)) (cl := vwCl) (ws := (wM cI mO memA dskA rgA inA outA u)) (A := A) (H0 := s.heap) (nL := 4) 149 (if ((gMW_r u) (7 : Int32).toNatClampNeg) ≤ (127 : Int32) then false else true : Bool) [(0, .ref mO), (1, .int a1), (2, .int ((gMW_r u) (7 : Int32).toNatClampNeg)), (3, .int (bI (if (bI (gMW_c u)) = (0 : Int32) then false else true : Bool)))] [.ref mO] (fun H locs ls hP hS hl => ?_) (fun hJ9 => ?_)
          · skip
            refine va_put (D := (dC, dI)) (ci := 7) (v := .int (bI (if ((gMW_r u) (7 : Int32).toNatClampNeg) ≤ (127 : Int32) then false else true : Bool))) (ty := .boolean) (C := RX7) (T := TX7) (N := 30) hx hb hts iX7_turn_X7 tyX7 tyX7_ok nmX7 hown hK hP hD hS 0 rfl rfl 8 (by decide) (hts _ qX7_turn_1) (fun _ h9 => h9) rfl (by decide +kernel) (bI_nar (if ((gMW_r u) (7 : Int32).toNatClampNeg) ≤ (127 : Int32) then false else true : Bool)) (bI_fit (if ((gMW_r u) (7 : Int32).toNatClampNeg) ≤ (127 : Int32) then false else true : Bool)) (Nat.le_of_ble_eq_true rfl) dX7_turn_149 (fun H locs hP hD hS => ?_)
            obtain ⟨hP, hD⟩ := pM_c hP hD
            refine lv_aload_n hx hb dX7_turn_152 rfl (lv_at hl 0 rfl) ?_
            refine va_get (D := (dC, dI)) (ci := 7) (v := .ref rgA) (C := RX7) (T := TX7) (N := 30) hx hb hts iX7_turn_X7 hown hK hP 0 rfl rfl 3 (by decide) (hts _ qX7_turn_0) (fun _ h9 => h9) rfl dX7_turn_153 ?_
            refine lv_bipush (v := 7) hx hb dX7_turn_156 (by decide) ?_
            refine lv_iload_n hx hb dX7_turn_158 rfl (lv_at hl 2 rfl) ?_
            refine lv_iconst (v := 1) hx hb dX7_turn_159 (by decide) ?_
            refine lv_ishl hx hb dX7_turn_160 ?_
            refine lv_sipush (v := 255) hx hb dX7_turn_161 (by decide) ?_
            refine lv_iand hx hb dX7_turn_164 ?_
            refine lv_iload_n hx hb dX7_turn_165 rfl (lv_at hl 3 rfl) ?_
            refine lv_ior hx hb dX7_turn_166 ?_
            refine va_iast (f := (gMW_r (sMW_c u (if ((gMW_r u) (7 : Int32).toNatClampNeg) ≤ (127 : Int32) then false else true : Bool)))) hx hb hK hP hD hS 3 0 rfl rfl (ix_lit (by decide)) dX7_turn_167 (fun H locs hP hD hS => ?_)
            obtain ⟨hP, hD⟩ := aM_rgA hP hD
            refine lv_goto (tgt := 251) hx hb dX7_turn_168 (by decide) ?_
            exact W.vret hx hb hr (fun t ht hW => ⟨⟨(sMW_r (sMW_c u (if ((gMW_r u) (7 : Int32).toNatClampNeg) ≤ (127 : Int32) then false else true : Bool)) (upd (gMW_r (sMW_c u (if ((gMW_r u) (7 : Int32).toNatClampNeg) ≤ (127 : Int32) then false else true : Bool))) (7 : Int32).toNatClampNeg (((((gMW_r u) (7 : Int32).toNatClampNeg) <<< ((1 : Int32) &&& 31)) &&& (255 : Int32)) ||| (bI (if (bI (gMW_c u)) = (0 : Int32) then false else true : Bool))))), rfl, (by simp only [f_X7_turn, if_neg c2, if_neg c5, if_pos c8]), by rw [ht]; exact hP, va_K.moved hW.alike hK, hD⟩, hS.F ht⟩) hS.2.2 dX7_turn_251
          · skip
            refine lv_icmp_le (tgt := 148) hx hb dX7_turn_141 (by decide) (fun c10 => ?_) (fun c10 => ?_)
            · skip
              refine lv_iconst (v := 0) hx hb dX7_turn_148 (by decide) ?_
              exact hJ9 false _ _ _ (by simp only [if_pos c10]) hP hS (lv_sub hl [1, 2, 3, 0] rfl)
            · skip
              refine lv_iconst (v := 1) hx hb dX7_turn_144 (by decide) ?_
              refine lv_goto (tgt := 149) hx hb dX7_turn_145 (by decide) ?_
              exact hJ9 true _ _ _ (by simp only [if_neg c10]) hP hS (lv_sub hl [1, 2, 3, 0] rfl)
        · skip
          by_cases c11 : a1 = 3
          · refine tb_in (k := 3) (off := 149) (tgt := 171) hx hb dX7_turn_22 c11 (by decide) (by decide) (by decide) (by decide) ?_
            refine lv_aload_n hx hb dX7_turn_171 rfl (lv_at hl 1 rfl) ?_
            refine lv_iload_n hx hb dX7_turn_172 rfl (lv_at hl 3 rfl) ?_
            refine lv_iconst (v := 1) hx hb dX7_turn_173 (by decide) ?_
            refine lv_iand hx hb dX7_turn_174 ?_
            refine lv_iconst (v := 1) hx hb dX7_turn_175 (by decide) ?_
            refine jn_b (D := (dC, dI)) (cl := vwCl) (ws := (wM cI mO memA dskA rgA inA outA u)) (A := A) (H0 := s.heap) (nL := 4) 184 (if (((gMW_r u) (7 : Int32).toNatClampNeg) &&& (1 : Int32)) = (1 : Int32) then true else false : Bool) [(0, .ref mO), (1, .int a1), (2, .int ((gMW_r u) (7 : Int32).toNatClampNeg)), (3, .int (bI (if (bI (gMW_c u)) = (0 : Int32) then false else true : Bool)))] [.ref mO] (fun H locs ls hP hS hl => ?_) (fun hJ12 => ?_)
            · skip
              refine va_put (D := (dC, dI)) (ci := 7) (v := .int (bI (if (((gMW_r u) (7 : Int32).toNatClampNeg) &&& (1 : Int32)) = (1 : Int32) then true else false : Bool))) (ty := .boolean) (C := RX7) (T := TX7) (N := 30) hx hb hts iX7_turn_X7 tyX7 tyX7_ok nmX7 hown hK hP hD hS 0 rfl rfl 8 (by decide) (hts _ qX7_turn_1) (fun _ h9 => h9) rfl (by decide +kernel) (bI_nar (if (((gMW_r u) (7 : Int32).toNatClampNeg) &&& (1 : Int32)) = (1 : Int32) then true else false : Bool)) (bI_fit (if (((gMW_r u) (7 : Int32).toNatClampNeg) &&& (1 : Int32)) = (1 : Int32) then true else false : Bool)) (Nat.le_of_ble_eq_true rfl) dX7_turn_184 (fun H locs hP hD hS => ?_)
              obtain ⟨hP, hD⟩ := pM_c hP hD
              refine lv_aload_n hx hb dX7_turn_187 rfl (lv_at hl 0 rfl) ?_
              refine va_get (D := (dC, dI)) (ci := 7) (v := .ref rgA) (C := RX7) (T := TX7) (N := 30) hx hb hts iX7_turn_X7 hown hK hP 0 rfl rfl 3 (by decide) (hts _ qX7_turn_0) (fun _ h9 => h9) rfl dX7_turn_188 ?_
              refine lv_bipush (v := 7) hx hb dX7_turn_191 (by decide) ?_
              refine lv_iload_n hx hb dX7_turn_193 rfl (lv_at hl 2 rfl) ?_
              refine lv_iconst (v := 1) hx hb dX7_turn_194 (by decide) ?_
              refine lv_ishr hx hb dX7_turn_195 ?_
              refine lv_iload_n hx hb dX7_turn_196 rfl (lv_at hl 3 rfl) ?_
              refine lv_bipush (v := 7) hx hb dX7_turn_197 (by decide) ?_
              refine lv_ishl hx hb dX7_turn_199 ?_
              refine lv_ior hx hb dX7_turn_200 ?_
              refine va_iast (f := (gMW_r (sMW_c u (if (((gMW_r u) (7 : Int32).toNatClampNeg) &&& (1 : Int32)) = (1 : Int32) then true else false : Bool)))) hx hb hK hP hD hS 3 0 rfl rfl (ix_lit (by decide)) dX7_turn_201 (fun H locs hP hD hS => ?_)
              obtain ⟨hP, hD⟩ := aM_rgA hP hD
              refine lv_goto (tgt := 251) hx hb dX7_turn_202 (by decide) ?_
              exact W.vret hx hb hr (fun t ht hW => ⟨⟨(sMW_r (sMW_c u (if (((gMW_r u) (7 : Int32).toNatClampNeg) &&& (1 : Int32)) = (1 : Int32) then true else false : Bool)) (upd (gMW_r (sMW_c u (if (((gMW_r u) (7 : Int32).toNatClampNeg) &&& (1 : Int32)) = (1 : Int32) then true else false : Bool))) (7 : Int32).toNatClampNeg ((((gMW_r u) (7 : Int32).toNatClampNeg) >>> ((1 : Int32) &&& 31)) ||| ((bI (if (bI (gMW_c u)) = (0 : Int32) then false else true : Bool)) <<< ((7 : Int32) &&& 31))))), rfl, (by simp only [f_X7_turn, if_neg c2, if_neg c5, if_neg c8, if_pos c11]), by rw [ht]; exact hP, va_K.moved hW.alike hK, hD⟩, hS.F ht⟩) hS.2.2 dX7_turn_251
            · skip
              refine lv_icmp_ne (tgt := 183) hx hb dX7_turn_176 (by decide) (fun c13 => ?_) (fun c13 => ?_)
              · skip
                refine lv_iconst (v := 0) hx hb dX7_turn_183 (by decide) ?_
                exact hJ12 false _ _ _ (by simp only [if_neg c13]) hP hS (lv_sub hl [1, 2, 3, 0] rfl)
              · skip
                refine lv_iconst (v := 1) hx hb dX7_turn_179 (by decide) ?_
                refine lv_goto (tgt := 184) hx hb dX7_turn_180 (by decide) ?_
                exact hJ12 true _ _ _ (by simp only [if_pos c13]) hP hS (lv_sub hl [1, 2, 3, 0] rfl)
          · skip
            by_cases c14 : a1 = 4
            · refine tb_in (k := 4) (off := 183) (tgt := 205) hx hb dX7_turn_22 c14 (by decide) (by decide) (by decide) (by decide) ?_
              refine lv_aload_n hx hb dX7_turn_205 rfl (lv_at hl 1 rfl) ?_
              obtain ⟨hPc, hDc, hFc⟩ := xM_M hP hD hS hA
              have hKc := hK.sub (tys' := [(cI, .int)]) [0] rfl
              refine va_callv (va_runV (As := []) (rest := []) ⟨hx, hb, hml, hown, hts⟩ (k_X7_adjust l dC dI cI mO memA dskA rgA inA outA H.size u) (cwV 0 hts gX7_turn_X7_adjust rfl rfl rfl (by decide +kernel) ⟨Nat.le_of_ble_eq_true rfl, Nat.le_of_ble_eq_true rfl⟩) ⟨fun a U g mk q => by obtain ⟨q0, q1, qP, qK, qD⟩ := q; exact ⟨q0, q1, qP, va_K.moved (u := U) (U := U.calling g mk a) (Vm.Alike.refl U.vm) qK, qD⟩, va_recv hKc hPc (ci := 7) (q0 := 0) rfl rfl, fun U hU hW => ⟨rfl, by rw [hU], by rw [hU]; exact hPc, va_K.moved hW.alike hKc, hDc.weaken (fun _ _ _ _ => trivial)⟩⟩ rfl rfl hl.1 rfl (lv_room (Nat.le_of_ble_eq_true rfl)) dX7_turn_206 ⟨Nat.le_of_ble_eq_true rfl, Nat.le_of_ble_eq_true rfl⟩) hS (fun q _ h => hFc q h) hFc (fun u9 t H1 locs ht hvm hw hB hz1 hk1 hS => ?_)
              subst hw
              obtain ⟨hP1, hK1, hD1⟩ := hB
              rw [ht] at hP1
              obtain ⟨hP, hD⟩ := jM_M hP hD hk1 hFc hP1 hD1
              clear hPc hDc hKc hFc hz1 hk1 hP1 hK1 hD1 ht hvm
              generalize H1 = H at hP hS ⊢
              refine lv_goto (tgt := 251) hx hb dX7_turn_209 (by decide) ?_
              exact W.vret hx hb hr (fun t ht hW => ⟨⟨(f_X7_adjust u), rfl, (by simp only [f_X7_turn, if_neg c2, if_neg c5, if_neg c8, if_neg c11, if_pos c14]), by rw [ht]; exact hP, va_K.moved hW.alike hK, hD⟩, hS.F ht⟩) hS.2.2 dX7_turn_251
            · skip
              by_cases c15 : a1 = 5
              · refine tb_in (k := 5) (off := 190) (tgt := 212) hx hb dX7_turn_22 c15 (by decide) (by decide) (by decide) (by decide) ?_
                refine lv_aload_n hx hb dX7_turn_212 rfl (lv_at hl 1 rfl) ?_
                refine va_get (D := (dC, dI)) (ci := 7) (v := .ref rgA) (C := RX7) (T := TX7) (N := 30) hx hb hts iX7_turn_X7 hown hK hP 0 rfl rfl 3 (by decide) (hts _ qX7_turn_0) (fun _ h9 => h9) rfl dX7_turn_213 ?_
                refine lv_bipush (v := 7) hx hb dX7_turn_216 (by decide) ?_
                refine lv_sipush (v := 255) hx hb dX7_turn_218 (by decide) ?_
                refine lv_iload_n hx hb dX7_turn_221 rfl (lv_at hl 3 rfl) ?_
                refine lv_isub hx hb dX7_turn_222 ?_
                refine va_iast (f := (gMW_r u)) hx hb hK hP hD hS 3 0 rfl rfl (ix_lit (by decide)) dX7_turn_223 (fun H locs hP hD hS => ?_)
                obtain ⟨hP, hD⟩ := aM_rgA hP hD
                refine lv_goto (tgt := 251) hx hb dX7_turn_224 (by decide) ?_
                exact W.vret hx hb hr (fun t ht hW => ⟨⟨(sMW_r u (upd (gMW_r u) (7 : Int32).toNatClampNeg ((255 : Int32) - ((gMW_r u) (7 : Int32).toNatClampNeg)))), rfl, (by simp only [f_X7_turn, if_neg c2, if_neg c5, if_neg c8, if_neg c11, if_neg c14, if_pos c15]), by rw [ht]; exact hP, va_K.moved hW.alike hK, hD⟩, hS.F ht⟩) hS.2.2 dX7_turn_251
              · skip
                by_cases c16 : a1 = 6
                · refine tb_in (k := 6) (off := 205) (tgt := 227) hx hb dX7_turn_22 c16 (by decide) (by decide) (by decide) (by decide) ?_
                  refine lv_aload_n hx hb dX7_turn_227 rfl (lv_at hl 1 rfl) ?_
                  refine lv_iconst (v := 1) hx hb dX7_turn_228 (by decide) ?_
                  refine va_put (D := (dC, dI)) (ci := 7) (v := .int (bI true)) (ty := .boolean) (C := RX7) (T := TX7) (N := 30) hx hb hts iX7_turn_X7 tyX7 tyX7_ok nmX7 hown hK hP hD hS 0 rfl rfl 8 (by decide) (hts _ qX7_turn_1) (fun _ h9 => h9) rfl (by decide +kernel) (bI_nar true) (bI_fit true) (Nat.le_of_ble_eq_true rfl) dX7_turn_229 (fun H locs hP hD hS => ?_)
                  obtain ⟨hP, hD⟩ := pM_c hP hD
                  refine lv_goto (tgt := 251) hx hb dX7_turn_232 (by decide) ?_
                  exact W.vret hx hb hr (fun t ht hW => ⟨⟨(sMW_c u true), rfl, (by simp only [f_X7_turn, if_neg c2, if_neg c5, if_neg c8, if_neg c11, if_neg c14, if_neg c15, if_pos c16]), by rw [ht]; exact hP, va_K.moved hW.alike hK, hD⟩, hS.F ht⟩) hS.2.2 dX7_turn_251
                · skip
                  refine lv_tableOut (tgt := 235) hx hb dX7_turn_22 (by have r0 := lv_neT c2 (a := 0) (by decide); have r1 := lv_neT c5 (a := 1) (by decide); have r2 := lv_neT c8 (a := 2) (by decide); have r3 := lv_neT c11 (a := 3) (by decide); have r4 := lv_neT c14 (a := 4) (by decide); have r5 := lv_neT c15 (a := 5) (by decide); have r6 := lv_neT c16 (a := 6) (by decide); omega) (by decide) ?_
                  refine lv_aload_n hx hb dX7_turn_235 rfl (lv_at hl 1 rfl) ?_
                  refine lv_aload_n hx hb dX7_turn_236 rfl (lv_at hl 1 rfl) ?_
                  refine va_get (D := (dC, dI)) (ci := 7) (v := .int (bI (gMW_c u))) (C := RX7) (T := TX7) (N := 30) hx hb hts iX7_turn_X7 hown hK hP 0 rfl rfl 8 (by decide) (hts _ qX7_turn_1) (fun _ h9 => h9) rfl dX7_turn_237 ?_
                  refine jn_b (D := (dC, dI)) (cl := vwCl) (ws := (wM cI mO memA dskA rgA inA outA u)) (A := A) (H0 := s.heap) (nL := 4) 248 (if (bI (gMW_c u)) = (0 : Int32) then true else false : Bool) [(0, .ref mO), (1, .int a1), (2, .int ((gMW_r u) (7 : Int32).toNatClampNeg)), (3, .int (bI (if (bI (gMW_c u)) = (0 : Int32) then false else true : Bool)))] [.ref mO] (fun H locs ls hP hS hl => ?_) (fun hJ17 => ?_)
                  · skip
                    refine va_put (D := (dC, dI)) (ci := 7) (v := .int (bI (if (bI (gMW_c u)) = (0 : Int32) then true else false : Bool))) (ty := .boolean) (C := RX7) (T := TX7) (N := 30) hx hb hts iX7_turn_X7 tyX7 tyX7_ok nmX7 hown hK hP hD hS 0 rfl rfl 8 (by decide) (hts _ qX7_turn_1) (fun _ h9 => h9) rfl (by decide +kernel) (bI_nar (if (bI (gMW_c u)) = (0 : Int32) then true else false : Bool)) (bI_fit (if (bI (gMW_c u)) = (0 : Int32) then true else false : Bool)) (Nat.le_of_ble_eq_true rfl) dX7_turn_248 (fun H locs hP hD hS => ?_)
                    obtain ⟨hP, hD⟩ := pM_c hP hD
                    exact W.vret hx hb hr (fun t ht hW => ⟨⟨(sMW_c u (if (bI (gMW_c u)) = (0 : Int32) then true else false : Bool)), rfl, (by simp only [f_X7_turn, if_neg c2, if_neg c5, if_neg c8, if_neg c11, if_neg c14, if_neg c15, if_neg c16]), by rw [ht]; exact hP, va_K.moved hW.alike hK, hD⟩, hS.F ht⟩) hS.2.2 dX7_turn_251
                  · skip
                    refine lv_if_ne (tgt := 247) hx hb dX7_turn_240 (by decide) (fun c18 => ?_) (fun c18 => ?_)
                    · skip
                      refine lv_iconst (v := 0) hx hb dX7_turn_247 (by decide) ?_
                      exact hJ17 false _ _ _ (by simp only [if_neg c18]) hP hS (lv_sub hl [1, 2, 3, 0] rfl)
                    · skip
                      refine lv_iconst (v := 1) hx hb dX7_turn_243 (by decide) ?_
                      refine lv_goto (tgt := 248) hx hb dX7_turn_244 (by decide) ?_
                      exact hJ17 true _ _ _ (by simp only [if_pos c18]) hP hS (lv_sub hl [1, 2, 3, 0] rfl)
  · skip
    refine lv_if_eq (tgt := 19) hx hb dX7_turn_12 (by decide) (fun c19 => ?_) (fun c19 => ?_)
    · skip
      refine lv_iconst (v := 0) hx hb dX7_turn_19 (by decide) ?_
      exact hJ1 false _ _ _ (by simp only [if_pos c19]) hP hS (lv_sub hl [1, 2, 0] rfl)
    · skip
      refine lv_iconst (v := 1) hx hb dX7_turn_15 (by decide) ?_
      refine lv_goto (tgt := 20) hx hb dX7_turn_16 (by decide) ?_
      exact hJ1 true _ _ _ (by simp only [if_neg c19]) hP hS (lv_sub hl [1, 2, 0] rfl)

def f_X7_byAddress (u : MW) (a1 : Int32) : MW := 
  if (4 : Int32) ≤ a1 then 
    if a1 = (4 : Int32) then (f_X7_setWord (sMW_spent (f_X7_nextWord u).2 (if (4 : Int32) ≤ a1 then (if (6 : Int32) ≤ a1 then 13 else 16 : Int32) else 7 : Int32)) (f_X7_nextWord u).1 (f_X7_hl (sMW_spent (f_X7_nextWord u).2 (if (4 : Int32) ≤ a1 then (if (6 : Int32) ≤ a1 then 13 else 16 : Int32) else 7 : Int32))))
    else 
      if a1 = (5 : Int32) then (f_X7_setPair (sMW_spent (f_X7_nextWord u).2 (if (4 : Int32) ≤ a1 then (if (6 : Int32) ≤ a1 then 13 else 16 : Int32) else 7 : Int32)) 2 (f_X7_getWord (sMW_spent (f_X7_nextWord u).2 (if (4 : Int32) ≤ a1 then (if (6 : Int32) ≤ a1 then 13 else 16 : Int32) else 7 : Int32)) (f_X7_nextWord u).1))
      else 
        if (a1 - a1 / (2 : Int32) * (2 : Int32)) = (0 : Int32) then (f_X7_set (sMW_spent (f_X7_nextWord u).2 (if (4 : Int32) ≤ a1 then (if (6 : Int32) ≤ a1 then 13 else 16 : Int32) else 7 : Int32)) (f_X7_nextWord u).1 ((gMW_r (sMW_spent (f_X7_nextWord u).2 (if (4 : Int32) ≤ a1 then (if (6 : Int32) ≤ a1 then 13 else 16 : Int32) else 7 : Int32))) (7 : Int32).toNatClampNeg))
        else (sMW_r (sMW_spent (f_X7_nextWord u).2 (if (4 : Int32) ≤ a1 then (if (6 : Int32) ≤ a1 then 13 else 16 : Int32) else 7 : Int32)) (upd (gMW_r (sMW_spent (f_X7_nextWord u).2 (if (4 : Int32) ≤ a1 then (if (6 : Int32) ≤ a1 then 13 else 16 : Int32) else 7 : Int32))) (7 : Int32).toNatClampNeg (f_X7_get (sMW_spent (f_X7_nextWord u).2 (if (4 : Int32) ≤ a1 then (if (6 : Int32) ≤ a1 then 13 else 16 : Int32) else 7 : Int32)) (f_X7_nextWord u).1)))
  else 
    if a1 = (4 : Int32) then (f_X7_setWord (sMW_spent u (if (4 : Int32) ≤ a1 then (if (6 : Int32) ≤ a1 then 13 else 16 : Int32) else 7 : Int32)) (f_X7_pair u (a1 / (2 : Int32))) (f_X7_hl (sMW_spent u (if (4 : Int32) ≤ a1 then (if (6 : Int32) ≤ a1 then 13 else 16 : Int32) else 7 : Int32))))
    else 
      if a1 = (5 : Int32) then (f_X7_setPair (sMW_spent u (if (4 : Int32) ≤ a1 then (if (6 : Int32) ≤ a1 then 13 else 16 : Int32) else 7 : Int32)) 2 (f_X7_getWord (sMW_spent u (if (4 : Int32) ≤ a1 then (if (6 : Int32) ≤ a1 then 13 else 16 : Int32) else 7 : Int32)) (f_X7_pair u (a1 / (2 : Int32)))))
      else 
        if (a1 - a1 / (2 : Int32) * (2 : Int32)) = (0 : Int32) then (f_X7_set (sMW_spent u (if (4 : Int32) ≤ a1 then (if (6 : Int32) ≤ a1 then 13 else 16 : Int32) else 7 : Int32)) (f_X7_pair u (a1 / (2 : Int32))) ((gMW_r (sMW_spent u (if (4 : Int32) ≤ a1 then (if (6 : Int32) ≤ a1 then 13 else 16 : Int32) else 7 : Int32))) (7 : Int32).toNatClampNeg))
        else (sMW_r (sMW_spent u (if (4 : Int32) ≤ a1 then (if (6 : Int32) ≤ a1 then 13 else 16 : Int32) else 7 : Int32)) (upd (gMW_r (sMW_spent u (if (4 : Int32) ≤ a1 then (if (6 : Int32) ≤ a1 then 13 else 16 : Int32) else 7 : Int32))) (7 : Int32).toNatClampNeg (f_X7_get (sMW_spent u (if (4 : Int32) ≤ a1 then (if (6 : Int32) ≤ a1 then 13 else 16 : Int32) else 7 : Int32)) (f_X7_pair u (a1 / (2 : Int32))))))
theorem qX7_byAddress_0 : Cond.fieldLink RX7 141 "DiskMachineModel" "spent" "I" ∈ wsX7_byAddress := by decide +kernel
theorem qX7_byAddress_1 : Cond.fieldLink RX7 16 "DiskMachineModel" "\x72" "[I" ∈ wsX7_byAddress := by decide +kernel
theorem iX7_byAddress_X7 : ∀ w ∈ wsX70, w ∈ wsX7_byAddress := by decide +kernel
set_option maxHeartbeats 4000000 in
set_option maxRecDepth 100000 in
theorem k_X7_byAddress (l : Launch) (dC : Nat → ClassId) (dI : Nat → Nat → Nat) (cI : ClassId) (mO memA dskA rgA inA outA : Nat) (sz : Nat) (u : MW) (a1 : Int32) (h1 : vp_in a1 8) : Met l yX7_byAddress wsX7_byAddress ({ frames := 3, cells := 0, slots := 0, locals := 63 }) (va_Pc [.ref mO, .int a1] (wB dC dI [(cI, .int)] sz (wM cI mO memA dskA rgA inA outA u))) (va_Qv (fun u' : MW => u' = (f_X7_byAddress u a1)) (fun u' => wE dC dI [(cI, .int)] (va_A (wM cI mO memA dskA rgA inA outA u) sz) (wM cI mO memA dskA rgA inA outA u')) (va_A (wM cI mO memA dskA rgA inA outA u) sz)) 0 0 (va_A (wM cI mO memA dskA rgA inA outA u) sz) := by
  refine Met.ofW (cc := cX7_byAddress) (maxL := 3) (ret := none) (by decide) rfl ?_
  intro p e s m args below meth c s₁ B hml hv
  obtain ⟨rfl, hsz, hP, hK, hD0⟩ := hv
  have hx := B.exec
  have hb := B.bytes
  have hr := B.returns
  have hts := atoms_spec (ws := wsX7_byAddress) B.pre
  have hown : s.vm.findClass RX7 = some m.cls := findClass_of_methodNamed B.named
  have hlocks := B.notSynchronized
  subst hsz
  have hD := hD0.self (sz := s.heap.size)
  generalize hAe : va_A (wM cI mO memA dskA rgA inA outA u) s.heap.size = A at hD ⊢
  have hA : ∀ q : Nat, s.heap.size ≤ q → A q := fun q h => by rw [← hAe]; exact Or.inr h
  have hS : va_S A s.heap s.heap [] := va_S.rf
  have hP : va_P (dC, dI) vwCl (wM cI mO memA dskA rgA inA outA u) s.heap := hP
  clear hAe hD0
  have hl := lv_entry ([.ref mO, .int a1]) (n := 3) (Nat.le_of_ble_eq_true rfl)
  rw [lg_entry_eq]
  generalize (lg_sl ([.ref mO, .int a1]) ++ List.replicate (3 - (lg_sl ([.ref mO, .int a1])).length) Slot.unset).toArray = ls at hl ⊢
  have hl : lv_has ls 3 [(0, .ref mO), (1, .int a1)] := hl
  refine jn_H hP hS (fun H locs hP hS => ?_)
  refine lv_iload_n hx hb dX7_byAddress_0 rfl (lv_at hl 1 rfl) ?_
  refine lv_iconst (v := 4) hx hb dX7_byAddress_1 (by decide) ?_
  refine lv_icmp_ge (tgt := 15) hx hb dX7_byAddress_2 (by decide) (fun c1 => ?_) (fun c1 => ?_)
  · skip
    refine lv_aload_n hx hb dX7_byAddress_15 rfl (lv_at hl 0 rfl) ?_
    obtain ⟨hPc, hDc, hFc⟩ := xM_M hP hD hS hA
    have hKc := hK.sub (tys' := [(cI, .int)]) [0] rfl
    refine va_calli (va_runV (As := []) (rest := []) ⟨hx, hb, hml, hown, hts⟩ (k_X7_nextWord l dC dI cI mO memA dskA rgA inA outA H.size u) (cwV 0 hts gX7_byAddress_X7_nextWord rfl rfl rfl (by decide +kernel) ⟨Nat.le_of_ble_eq_true rfl, Nat.le_of_ble_eq_true rfl⟩) ⟨fun a U g mk q => by obtain ⟨q0, q1, qP, qK, qD⟩ := q; exact ⟨q0, q1, qP, va_K.moved (u := U) (U := U.calling g mk a) (Vm.Alike.refl U.vm) qK, qD⟩, va_recv hKc hPc (ci := 7) (q0 := 0) rfl rfl, fun U hU hW => ⟨rfl, by rw [hU], by rw [hU]; exact hPc, va_K.moved hW.alike hKc, hDc.weaken (fun _ _ _ _ => trivial)⟩⟩ rfl rfl hl.1 rfl (lv_room (Nat.le_of_ble_eq_true rfl)) dX7_byAddress_16 ⟨Nat.le_of_ble_eq_true rfl, Nat.le_of_ble_eq_true rfl⟩) hS (fun q _ h => hFc q h) hFc (fun r9 u9 t H1 locs ht hvm hw hB hz1 hk1 hS => ?_)
    obtain ⟨rfl, rfl⟩ := hw
    obtain ⟨hP1, hK1, hD1⟩ := hB
    rw [ht] at hP1
    obtain ⟨hP, hD⟩ := jM_M hP hD hk1 hFc hP1 hD1
    clear hPc hDc hKc hFc hz1 hk1 hP1 hK1 hD1 ht hvm
    generalize H1 = H at hP hS ⊢
    refine lv_istore_n (lv' := [(2, .int (f_X7_nextWord u).1), (0, .ref mO), (1, .int a1)]) hx hb dX7_byAddress_19 rfl hl (by decide) rfl (fun ls hl => ?_)
    refine lv_aload_n hx hb dX7_byAddress_20 rfl (lv_at hl 1 rfl) ?_
    refine lv_iload_n hx hb dX7_byAddress_21 rfl (lv_at hl 2 rfl) ?_
    refine lv_iconst (v := 4) hx hb dX7_byAddress_22 (by decide) ?_
    refine jn_i (D := (dC, dI)) (cl := vwCl) (ws := (wM cI mO memA dskA rgA inA outA (f_X7_nextWord u).2)) (A := A) (H0 := s.heap) (nL := 3) 44 (if (4 : Int32) ≤ a1 then (if (6 : Int32) ≤ a1 then 13 else 16 : Int32) else 7 : Int32) [(0, .ref mO), (1, .int a1), (2, .int (f_X7_nextWord u).1)] [.ref mO] (fun H locs ls hP hS hl => ?_) (fun hJ2 => ?_)
    · skip
      refine va_put (D := (dC, dI)) (ci := 7) (v := .int (if (4 : Int32) ≤ a1 then (if (6 : Int32) ≤ a1 then 13 else 16 : Int32) else 7 : Int32)) (ty := .int) (C := RX7) (T := TX7) (N := 30) hx hb hts iX7_byAddress_X7 tyX7 tyX7_ok nmX7 hown hK hP hD hS 0 rfl rfl 16 (by decide) (hts _ qX7_byAddress_0) (fun _ h9 => h9) rfl (by decide +kernel) rfl rfl (Nat.le_of_ble_eq_true rfl) dX7_byAddress_44 (fun H locs hP hD hS => ?_)
      obtain ⟨hP, hD⟩ := pM_spent hP hD
      refine lv_iload_n hx hb dX7_byAddress_47 rfl (lv_at hl 1 rfl) ?_
      refine lv_iconst (v := 4) hx hb dX7_byAddress_48 (by decide) ?_
      refine lv_icmp_ne (tgt := 64) hx hb dX7_byAddress_49 (by decide) (fun c3 => ?_) (fun c3 => ?_)
      · skip
        refine lv_iload_n hx hb dX7_byAddress_64 rfl (lv_at hl 1 rfl) ?_
        refine lv_iconst (v := 5) hx hb dX7_byAddress_65 (by decide) ?_
        refine lv_icmp_ne (tgt := 82) hx hb dX7_byAddress_66 (by decide) (fun c4 => ?_) (fun c4 => ?_)
        · skip
          refine lv_iload_n hx hb dX7_byAddress_82 rfl (lv_at hl 1 rfl) ?_
          refine lv_iconst (v := 2) hx hb dX7_byAddress_83 (by decide) ?_
          refine lv_irem hx hb dX7_byAddress_84 (by decide) ?_
          refine lv_if_ne (tgt := 103) hx hb dX7_byAddress_85 (by decide) (fun c5 => ?_) (fun c5 => ?_)
          · skip
            refine lv_aload_n hx hb dX7_byAddress_103 rfl (lv_at hl 0 rfl) ?_
            refine va_get (D := (dC, dI)) (ci := 7) (v := .ref rgA) (C := RX7) (T := TX7) (N := 30) hx hb hts iX7_byAddress_X7 hown hK hP 0 rfl rfl 3 (by decide) (hts _ qX7_byAddress_1) (fun _ h9 => h9) rfl dX7_byAddress_104 ?_
            refine lv_bipush (v := 7) hx hb dX7_byAddress_107 (by decide) ?_
            refine lv_aload_n hx hb dX7_byAddress_109 rfl (lv_at hl 0 rfl) ?_
            refine lv_iload_n hx hb dX7_byAddress_110 rfl (lv_at hl 2 rfl) ?_
            obtain ⟨hPc, hDc, hFc⟩ := xM_M hP hD hS hA
            have hKc := hK.sub (tys' := [(cI, .int)]) [0] rfl
            refine va_calli (va_runV (As := [.int (f_X7_nextWord u).1]) (rest := [.int 7, .ref rgA]) ⟨hx, hb, hml, hown, hts⟩ (k_X7_get l dC dI cI mO memA dskA rgA inA outA H.size (sMW_spent (f_X7_nextWord u).2 (if (4 : Int32) ≤ a1 then (if (6 : Int32) ≤ a1 then 13 else 16 : Int32) else 7 : Int32)) (f_X7_nextWord u).1) (cwV 1 hts gX7_byAddress_X7_get rfl rfl rfl (by decide +kernel) ⟨Nat.le_of_ble_eq_true rfl, Nat.le_of_ble_eq_true rfl⟩) ⟨fun a U g mk q => by obtain ⟨q0, q1, qP, qK, qD⟩ := q; exact ⟨q0, q1, qP, va_K.moved (u := U) (U := U.calling g mk a) (Vm.Alike.refl U.vm) qK, qD⟩, va_recv hKc hPc (ci := 7) (q0 := 0) rfl rfl, fun U hU hW => ⟨rfl, by rw [hU], by rw [hU]; exact hPc, va_K.moved hW.alike hKc, hDc.weaken (fun _ _ _ _ => trivial)⟩⟩ rfl rfl hl.1 rfl (lv_room (Nat.le_of_ble_eq_true rfl)) dX7_byAddress_111 ⟨Nat.le_of_ble_eq_true rfl, Nat.le_of_ble_eq_true rfl⟩) hS (fun q _ h => hFc q h) hFc (fun r9 u9 t H1 locs ht hvm hw hB hz1 hk1 hS => ?_)
            obtain ⟨hw1, hw2⟩ := hw
            have hw2 := hw2.symm
            subst hw1 hw2
            obtain ⟨hP1, hK1, hD1⟩ := hB
            rw [ht] at hP1
            obtain ⟨hP, hD⟩ := jM_M0 hP hD hk1 hFc hP1 hD1
            clear hPc hDc hKc hFc hz1 hk1 hP1 hK1 hD1 ht hvm
            generalize H1 = H at hP hS ⊢
            refine va_iast (f := (gMW_r (sMW_spent (f_X7_nextWord u).2 (if (4 : Int32) ≤ a1 then (if (6 : Int32) ≤ a1 then 13 else 16 : Int32) else 7 : Int32)))) hx hb hK hP hD hS 3 0 rfl rfl (ix_lit (by decide)) dX7_byAddress_114 (fun H locs hP hD hS => ?_)
            obtain ⟨hP, hD⟩ := aM_rgA hP hD
            exact W.vret hx hb hr (fun t ht hW => ⟨⟨(sMW_r (sMW_spent (f_X7_nextWord u).2 (if (4 : Int32) ≤ a1 then (if (6 : Int32) ≤ a1 then 13 else 16 : Int32) else 7 : Int32)) (upd (gMW_r (sMW_spent (f_X7_nextWord u).2 (if (4 : Int32) ≤ a1 then (if (6 : Int32) ≤ a1 then 13 else 16 : Int32) else 7 : Int32))) (7 : Int32).toNatClampNeg (f_X7_get (sMW_spent (f_X7_nextWord u).2 (if (4 : Int32) ≤ a1 then (if (6 : Int32) ≤ a1 then 13 else 16 : Int32) else 7 : Int32)) (f_X7_nextWord u).1))), rfl, (by simp only [f_X7_byAddress, if_pos c1, if_neg c3, if_neg c4, if_neg c5]), by rw [ht]; exact hP, va_K.moved hW.alike hK, hD⟩, hS.F ht⟩) hS.2.2 dX7_byAddress_115
          · skip
            refine lv_aload_n hx hb dX7_byAddress_88 rfl (lv_at hl 0 rfl) ?_
            refine lv_iload_n hx hb dX7_byAddress_89 rfl (lv_at hl 2 rfl) ?_
            refine lv_aload_n hx hb dX7_byAddress_90 rfl (lv_at hl 0 rfl) ?_
            refine va_get (D := (dC, dI)) (ci := 7) (v := .ref rgA) (C := RX7) (T := TX7) (N := 30) hx hb hts iX7_byAddress_X7 hown hK hP 0 rfl rfl 3 (by decide) (hts _ qX7_byAddress_1) (fun _ h9 => h9) rfl dX7_byAddress_91 ?_
            refine lv_bipush (v := 7) hx hb dX7_byAddress_94 (by decide) ?_
            refine va_iald (f := (gMW_r (sMW_spent (f_X7_nextWord u).2 (if (4 : Int32) ≤ a1 then (if (6 : Int32) ≤ a1 then 13 else 16 : Int32) else 7 : Int32)))) hx hb hK hP 3 0 rfl rfl (ix_lit (by decide)) dX7_byAddress_96 ?_
            obtain ⟨hPc, hDc, hFc⟩ := xM_M hP hD hS hA
            have hKc := hK.sub (tys' := [(cI, .int)]) [0] rfl
            refine va_callv (va_runV (As := [.int (f_X7_nextWord u).1, .int ((gMW_r (sMW_spent (f_X7_nextWord u).2 (if (4 : Int32) ≤ a1 then (if (6 : Int32) ≤ a1 then 13 else 16 : Int32) else 7 : Int32))) (7 : Int32).toNatClampNeg)]) (rest := []) ⟨hx, hb, hml, hown, hts⟩ (k_X7_set l dC dI cI mO memA dskA rgA inA outA H.size (sMW_spent (f_X7_nextWord u).2 (if (4 : Int32) ≤ a1 then (if (6 : Int32) ≤ a1 then 13 else 16 : Int32) else 7 : Int32)) (f_X7_nextWord u).1 ((gMW_r (sMW_spent (f_X7_nextWord u).2 (if (4 : Int32) ≤ a1 then (if (6 : Int32) ≤ a1 then 13 else 16 : Int32) else 7 : Int32))) (7 : Int32).toNatClampNeg)) (cwV 2 hts gX7_byAddress_X7_set rfl rfl rfl (by decide +kernel) ⟨Nat.le_of_ble_eq_true rfl, Nat.le_of_ble_eq_true rfl⟩) ⟨fun a U g mk q => by obtain ⟨q0, q1, qP, qK, qD⟩ := q; exact ⟨q0, q1, qP, va_K.moved (u := U) (U := U.calling g mk a) (Vm.Alike.refl U.vm) qK, qD⟩, va_recv hKc hPc (ci := 7) (q0 := 0) rfl rfl, fun U hU hW => ⟨rfl, by rw [hU], by rw [hU]; exact hPc, va_K.moved hW.alike hKc, hDc.weaken (fun _ _ _ _ => trivial)⟩⟩ rfl rfl hl.1 rfl (lv_room (Nat.le_of_ble_eq_true rfl)) dX7_byAddress_97 ⟨Nat.le_of_ble_eq_true rfl, Nat.le_of_ble_eq_true rfl⟩) hS (fun q _ h => hFc q h) hFc (fun u9 t H1 locs ht hvm hw hB hz1 hk1 hS => ?_)
            subst hw
            obtain ⟨hP1, hK1, hD1⟩ := hB
            rw [ht] at hP1
            obtain ⟨hP, hD⟩ := jM_M hP hD hk1 hFc hP1 hD1
            clear hPc hDc hKc hFc hz1 hk1 hP1 hK1 hD1 ht hvm
            generalize H1 = H at hP hS ⊢
            refine lv_goto (tgt := 115) hx hb dX7_byAddress_100 (by decide) ?_
            exact W.vret hx hb hr (fun t ht hW => ⟨⟨(f_X7_set (sMW_spent (f_X7_nextWord u).2 (if (4 : Int32) ≤ a1 then (if (6 : Int32) ≤ a1 then 13 else 16 : Int32) else 7 : Int32)) (f_X7_nextWord u).1 ((gMW_r (sMW_spent (f_X7_nextWord u).2 (if (4 : Int32) ≤ a1 then (if (6 : Int32) ≤ a1 then 13 else 16 : Int32) else 7 : Int32))) (7 : Int32).toNatClampNeg)), rfl, (by simp only [f_X7_byAddress, if_pos c1, if_neg c3, if_neg c4, if_pos c5]), by rw [ht]; exact hP, va_K.moved hW.alike hK, hD⟩, hS.F ht⟩) hS.2.2 dX7_byAddress_115
        · skip
          refine lv_aload_n hx hb dX7_byAddress_69 rfl (lv_at hl 0 rfl) ?_
          refine lv_iconst (v := 2) hx hb dX7_byAddress_70 (by decide) ?_
          refine lv_aload_n hx hb dX7_byAddress_71 rfl (lv_at hl 0 rfl) ?_
          refine lv_iload_n hx hb dX7_byAddress_72 rfl (lv_at hl 2 rfl) ?_
          obtain ⟨hPc, hDc, hFc⟩ := xM_M hP hD hS hA
          have hKc := hK.sub (tys' := [(cI, .int)]) [0] rfl
          refine va_calli (va_runV (As := [.int (f_X7_nextWord u).1]) (rest := [.int 2, .ref mO]) ⟨hx, hb, hml, hown, hts⟩ (k_X7_getWord l dC dI cI mO memA dskA rgA inA outA H.size (sMW_spent (f_X7_nextWord u).2 (if (4 : Int32) ≤ a1 then (if (6 : Int32) ≤ a1 then 13 else 16 : Int32) else 7 : Int32)) (f_X7_nextWord u).1) (cwV 1 hts gX7_byAddress_X7_getWord rfl rfl rfl (by decide +kernel) ⟨Nat.le_of_ble_eq_true rfl, Nat.le_of_ble_eq_true rfl⟩) ⟨fun a U g mk q => by obtain ⟨q0, q1, qP, qK, qD⟩ := q; exact ⟨q0, q1, qP, va_K.moved (u := U) (U := U.calling g mk a) (Vm.Alike.refl U.vm) qK, qD⟩, va_recv hKc hPc (ci := 7) (q0 := 0) rfl rfl, fun U hU hW => ⟨rfl, by rw [hU], by rw [hU]; exact hPc, va_K.moved hW.alike hKc, hDc.weaken (fun _ _ _ _ => trivial)⟩⟩ rfl rfl hl.1 rfl (lv_room (Nat.le_of_ble_eq_true rfl)) dX7_byAddress_73 ⟨Nat.le_of_ble_eq_true rfl, Nat.le_of_ble_eq_true rfl⟩) hS (fun q _ h => hFc q h) hFc (fun r9 u9 t H1 locs ht hvm hw hB hz1 hk1 hS => ?_)
          obtain ⟨hw1, hw2⟩ := hw
          have hw2 := hw2.symm
          subst hw1 hw2
          obtain ⟨hP1, hK1, hD1⟩ := hB
          rw [ht] at hP1
          obtain ⟨hP, hD⟩ := jM_M0 hP hD hk1 hFc hP1 hD1
          clear hPc hDc hKc hFc hz1 hk1 hP1 hK1 hD1 ht hvm
          generalize H1 = H at hP hS ⊢
          obtain ⟨hPc, hDc, hFc⟩ := xM_M hP hD hS hA
          have hKc := hK.sub (tys' := [(cI, .int)]) [0] rfl
          refine va_callv (va_runV (As := [.int 2, .int (f_X7_getWord (sMW_spent (f_X7_nextWord u).2 (if (4 : Int32) ≤ a1 then (if (6 : Int32) ≤ a1 then 13 else 16 : Int32) else 7 : Int32)) (f_X7_nextWord u).1)]) (rest := []) ⟨hx, hb, hml, hown, hts⟩ (k_X7_setPair l dC dI cI mO memA dskA rgA inA outA H.size (sMW_spent (f_X7_nextWord u).2 (if (4 : Int32) ≤ a1 then (if (6 : Int32) ≤ a1 then 13 else 16 : Int32) else 7 : Int32)) 2 (f_X7_getWord (sMW_spent (f_X7_nextWord u).2 (if (4 : Int32) ≤ a1 then (if (6 : Int32) ≤ a1 then 13 else 16 : Int32) else 7 : Int32)) (f_X7_nextWord u).1) (ix_lit (by decide))) (cwV 2 hts gX7_byAddress_X7_setPair rfl rfl rfl (by decide +kernel) ⟨Nat.le_of_ble_eq_true rfl, Nat.le_of_ble_eq_true rfl⟩) ⟨fun a U g mk q => by obtain ⟨q0, q1, qP, qK, qD⟩ := q; exact ⟨q0, q1, qP, va_K.moved (u := U) (U := U.calling g mk a) (Vm.Alike.refl U.vm) qK, qD⟩, va_recv hKc hPc (ci := 7) (q0 := 0) rfl rfl, fun U hU hW => ⟨rfl, by rw [hU], by rw [hU]; exact hPc, va_K.moved hW.alike hKc, hDc.weaken (fun _ _ _ _ => trivial)⟩⟩ rfl rfl hl.1 rfl (lv_room (Nat.le_of_ble_eq_true rfl)) dX7_byAddress_76 ⟨Nat.le_of_ble_eq_true rfl, Nat.le_of_ble_eq_true rfl⟩) hS (fun q _ h => hFc q h) hFc (fun u9 t H1 locs ht hvm hw hB hz1 hk1 hS => ?_)
          subst hw
          obtain ⟨hP1, hK1, hD1⟩ := hB
          rw [ht] at hP1
          obtain ⟨hP, hD⟩ := jM_M hP hD hk1 hFc hP1 hD1
          clear hPc hDc hKc hFc hz1 hk1 hP1 hK1 hD1 ht hvm
          generalize H1 = H at hP hS ⊢
          refine lv_goto (tgt := 115) hx hb dX7_byAddress_79 (by decide) ?_
          exact W.vret hx hb hr (fun t ht hW => ⟨⟨(f_X7_setPair (sMW_spent (f_X7_nextWord u).2 (if (4 : Int32) ≤ a1 then (if (6 : Int32) ≤ a1 then 13 else 16 : Int32) else 7 : Int32)) 2 (f_X7_getWord (sMW_spent (f_X7_nextWord u).2 (if (4 : Int32) ≤ a1 then (if (6 : Int32) ≤ a1 then 13 else 16 : Int32) else 7 : Int32)) (f_X7_nextWord u).1)), rfl, (by simp only [f_X7_byAddress, if_pos c1, if_neg c3, if_pos c4]), by rw [ht]; exact hP, va_K.moved hW.alike hK, hD⟩, hS.F ht⟩) hS.2.2 dX7_byAddress_115
      · skip
        refine lv_aload_n hx hb dX7_byAddress_52 rfl (lv_at hl 0 rfl) ?_
        refine lv_iload_n hx hb dX7_byAddress_53 rfl (lv_at hl 2 rfl) ?_
        refine lv_aload_n hx hb dX7_byAddress_54 rfl (lv_at hl 0 rfl) ?_
        obtain ⟨hPc, hDc, hFc⟩ := xM_M hP hD hS hA
        have hKc := hK.sub (tys' := [(cI, .int)]) [0] rfl
        refine va_calli (va_runV (As := []) (rest := [.int (f_X7_nextWord u).1, .ref mO]) ⟨hx, hb, hml, hown, hts⟩ (k_X7_hl l dC dI cI mO memA dskA rgA inA outA H.size (sMW_spent (f_X7_nextWord u).2 (if (4 : Int32) ≤ a1 then (if (6 : Int32) ≤ a1 then 13 else 16 : Int32) else 7 : Int32))) (cwV 0 hts gX7_byAddress_X7_hl rfl rfl rfl (by decide +kernel) ⟨Nat.le_of_ble_eq_true rfl, Nat.le_of_ble_eq_true rfl⟩) ⟨fun a U g mk q => by obtain ⟨q0, q1, qP, qK, qD⟩ := q; exact ⟨q0, q1, qP, va_K.moved (u := U) (U := U.calling g mk a) (Vm.Alike.refl U.vm) qK, qD⟩, va_recv hKc hPc (ci := 7) (q0 := 0) rfl rfl, fun U hU hW => ⟨rfl, by rw [hU], by rw [hU]; exact hPc, va_K.moved hW.alike hKc, hDc.weaken (fun _ _ _ _ => trivial)⟩⟩ rfl rfl hl.1 rfl (lv_room (Nat.le_of_ble_eq_true rfl)) dX7_byAddress_55 ⟨Nat.le_of_ble_eq_true rfl, Nat.le_of_ble_eq_true rfl⟩) hS (fun q _ h => hFc q h) hFc (fun r9 u9 t H1 locs ht hvm hw hB hz1 hk1 hS => ?_)
        obtain ⟨hw1, hw2⟩ := hw
        have hw2 := hw2.symm
        subst hw1 hw2
        obtain ⟨hP1, hK1, hD1⟩ := hB
        rw [ht] at hP1
        obtain ⟨hP, hD⟩ := jM_M0 hP hD hk1 hFc hP1 hD1
        clear hPc hDc hKc hFc hz1 hk1 hP1 hK1 hD1 ht hvm
        generalize H1 = H at hP hS ⊢
        obtain ⟨hPc, hDc, hFc⟩ := xM_M hP hD hS hA
        have hKc := hK.sub (tys' := [(cI, .int)]) [0] rfl
        refine va_callv (va_runV (As := [.int (f_X7_nextWord u).1, .int (f_X7_hl (sMW_spent (f_X7_nextWord u).2 (if (4 : Int32) ≤ a1 then (if (6 : Int32) ≤ a1 then 13 else 16 : Int32) else 7 : Int32)))]) (rest := []) ⟨hx, hb, hml, hown, hts⟩ (k_X7_setWord l dC dI cI mO memA dskA rgA inA outA H.size (sMW_spent (f_X7_nextWord u).2 (if (4 : Int32) ≤ a1 then (if (6 : Int32) ≤ a1 then 13 else 16 : Int32) else 7 : Int32)) (f_X7_nextWord u).1 (f_X7_hl (sMW_spent (f_X7_nextWord u).2 (if (4 : Int32) ≤ a1 then (if (6 : Int32) ≤ a1 then 13 else 16 : Int32) else 7 : Int32)))) (cwV 2 hts gX7_byAddress_X7_setWord rfl rfl rfl (by decide +kernel) ⟨Nat.le_of_ble_eq_true rfl, Nat.le_of_ble_eq_true rfl⟩) ⟨fun a U g mk q => by obtain ⟨q0, q1, qP, qK, qD⟩ := q; exact ⟨q0, q1, qP, va_K.moved (u := U) (U := U.calling g mk a) (Vm.Alike.refl U.vm) qK, qD⟩, va_recv hKc hPc (ci := 7) (q0 := 0) rfl rfl, fun U hU hW => ⟨rfl, by rw [hU], by rw [hU]; exact hPc, va_K.moved hW.alike hKc, hDc.weaken (fun _ _ _ _ => trivial)⟩⟩ rfl rfl hl.1 rfl (lv_room (Nat.le_of_ble_eq_true rfl)) dX7_byAddress_58 ⟨Nat.le_of_ble_eq_true rfl, Nat.le_of_ble_eq_true rfl⟩) hS (fun q _ h => hFc q h) hFc (fun u9 t H1 locs ht hvm hw hB hz1 hk1 hS => ?_)
        subst hw
        obtain ⟨hP1, hK1, hD1⟩ := hB
        rw [ht] at hP1
        obtain ⟨hP, hD⟩ := jM_M hP hD hk1 hFc hP1 hD1
        clear hPc hDc hKc hFc hz1 hk1 hP1 hK1 hD1 ht hvm
        generalize H1 = H at hP hS ⊢
        refine lv_goto (tgt := 115) hx hb dX7_byAddress_61 (by decide) ?_
        exact W.vret hx hb hr (fun t ht hW => ⟨⟨(f_X7_setWord (sMW_spent (f_X7_nextWord u).2 (if (4 : Int32) ≤ a1 then (if (6 : Int32) ≤ a1 then 13 else 16 : Int32) else 7 : Int32)) (f_X7_nextWord u).1 (f_X7_hl (sMW_spent (f_X7_nextWord u).2 (if (4 : Int32) ≤ a1 then (if (6 : Int32) ≤ a1 then 13 else 16 : Int32) else 7 : Int32)))), rfl, (by simp only [f_X7_byAddress, if_pos c1, if_pos c3]), by rw [ht]; exact hP, va_K.moved hW.alike hK, hD⟩, hS.F ht⟩) hS.2.2 dX7_byAddress_115
    · skip
      refine lv_icmp_ge (tgt := 31) hx hb dX7_byAddress_23 (by decide) (fun c6 => ?_) (fun c6 => ?_)
      · skip
        refine lv_iload_n hx hb dX7_byAddress_31 rfl (lv_at hl 2 rfl) ?_
        refine lv_bipush (v := 6) hx hb dX7_byAddress_32 (by decide) ?_
        refine jn_i (D := (dC, dI)) (cl := vwCl) (ws := (wM cI mO memA dskA rgA inA outA (f_X7_nextWord u).2)) (A := A) (H0 := s.heap) (nL := 3) 44 (if (6 : Int32) ≤ a1 then 13 else 16 : Int32) [(0, .ref mO), (1, .int a1), (2, .int (f_X7_nextWord u).1)] [.ref mO] (fun H locs ls hP hS hl => ?_) (fun hJ7 => ?_)
        · skip
          exact hJ2 (if (6 : Int32) ≤ a1 then 13 else 16 : Int32) _ _ _ (by simp only [if_pos c6]) hP hS (lv_sub hl [0, 1, 2] rfl)
        · skip
          refine lv_icmp_ge (tgt := 42) hx hb dX7_byAddress_34 (by decide) (fun c8 => ?_) (fun c8 => ?_)
          · skip
            refine lv_bipush (v := 13) hx hb dX7_byAddress_42 (by decide) ?_
            exact hJ7 13 _ _ _ (by simp only [if_pos c8]) hP hS (lv_sub hl [1, 2, 0] rfl)
          · skip
            refine lv_bipush (v := 16) hx hb dX7_byAddress_37 (by decide) ?_
            refine lv_goto (tgt := 44) hx hb dX7_byAddress_39 (by decide) ?_
            exact hJ7 16 _ _ _ (by simp only [if_neg c8]) hP hS (lv_sub hl [1, 2, 0] rfl)
      · skip
        refine lv_bipush (v := 7) hx hb dX7_byAddress_26 (by decide) ?_
        refine lv_goto (tgt := 44) hx hb dX7_byAddress_28 (by decide) ?_
        exact hJ2 7 _ _ _ (by simp only [if_neg c6]) hP hS (lv_sub hl [1, 2, 0] rfl)
  · skip
    refine lv_aload_n hx hb dX7_byAddress_5 rfl (lv_at hl 0 rfl) ?_
    refine lv_iload_n hx hb dX7_byAddress_6 rfl (lv_at hl 1 rfl) ?_
    refine lv_iconst (v := 2) hx hb dX7_byAddress_7 (by decide) ?_
    refine lv_idiv hx hb dX7_byAddress_8 (by decide) ?_
    obtain ⟨hPc, hDc, hFc⟩ := xM_M hP hD hS hA
    have hKc := hK.sub (tys' := [(cI, .int)]) [0] rfl
    refine va_calli (va_runV (As := [.int (a1 / (2 : Int32))]) (rest := []) ⟨hx, hb, hml, hown, hts⟩ (k_X7_pair l dC dI cI mO memA dskA rgA inA outA H.size u (a1 / (2 : Int32)) (in_div2 h1)) (cwV 1 hts gX7_byAddress_X7_pair rfl rfl rfl (by decide +kernel) ⟨Nat.le_of_ble_eq_true rfl, Nat.le_of_ble_eq_true rfl⟩) ⟨fun a U g mk q => by obtain ⟨q0, q1, qP, qK, qD⟩ := q; exact ⟨q0, q1, qP, va_K.moved (u := U) (U := U.calling g mk a) (Vm.Alike.refl U.vm) qK, qD⟩, va_recv hKc hPc (ci := 7) (q0 := 0) rfl rfl, fun U hU hW => ⟨rfl, by rw [hU], by rw [hU]; exact hPc, va_K.moved hW.alike hKc, hDc.weaken (fun _ _ _ _ => trivial)⟩⟩ rfl rfl hl.1 rfl (lv_room (Nat.le_of_ble_eq_true rfl)) dX7_byAddress_9 ⟨Nat.le_of_ble_eq_true rfl, Nat.le_of_ble_eq_true rfl⟩) hS (fun q _ h => hFc q h) hFc (fun r9 u9 t H1 locs ht hvm hw hB hz1 hk1 hS => ?_)
    obtain ⟨hw1, hw2⟩ := hw
    have hw2 := hw2.symm
    subst hw1 hw2
    obtain ⟨hP1, hK1, hD1⟩ := hB
    rw [ht] at hP1
    obtain ⟨hP, hD⟩ := jM_M0 hP hD hk1 hFc hP1 hD1
    clear hPc hDc hKc hFc hz1 hk1 hP1 hK1 hD1 ht hvm
    generalize H1 = H at hP hS ⊢
    refine lv_goto (tgt := 19) hx hb dX7_byAddress_12 (by decide) ?_
    refine lv_istore_n (lv' := [(2, .int (f_X7_pair u (a1 / (2 : Int32)))), (0, .ref mO), (1, .int a1)]) hx hb dX7_byAddress_19 rfl hl (by decide) rfl (fun ls hl => ?_)
    refine lv_aload_n hx hb dX7_byAddress_20 rfl (lv_at hl 1 rfl) ?_
    refine lv_iload_n hx hb dX7_byAddress_21 rfl (lv_at hl 2 rfl) ?_
    refine lv_iconst (v := 4) hx hb dX7_byAddress_22 (by decide) ?_
    refine jn_i (D := (dC, dI)) (cl := vwCl) (ws := (wM cI mO memA dskA rgA inA outA u)) (A := A) (H0 := s.heap) (nL := 3) 44 (if (4 : Int32) ≤ a1 then (if (6 : Int32) ≤ a1 then 13 else 16 : Int32) else 7 : Int32) [(0, .ref mO), (1, .int a1), (2, .int (f_X7_pair u (a1 / (2 : Int32))))] [.ref mO] (fun H locs ls hP hS hl => ?_) (fun hJ9 => ?_)
    · skip
      refine va_put (D := (dC, dI)) (ci := 7) (v := .int (if (4 : Int32) ≤ a1 then (if (6 : Int32) ≤ a1 then 13 else 16 : Int32) else 7 : Int32)) (ty := .int) (C := RX7) (T := TX7) (N := 30) hx hb hts iX7_byAddress_X7 tyX7 tyX7_ok nmX7 hown hK hP hD hS 0 rfl rfl 16 (by decide) (hts _ qX7_byAddress_0) (fun _ h9 => h9) rfl (by decide +kernel) rfl rfl (Nat.le_of_ble_eq_true rfl) dX7_byAddress_44 (fun H locs hP hD hS => ?_)
      obtain ⟨hP, hD⟩ := pM_spent hP hD
      refine lv_iload_n hx hb dX7_byAddress_47 rfl (lv_at hl 1 rfl) ?_
      refine lv_iconst (v := 4) hx hb dX7_byAddress_48 (by decide) ?_
      refine lv_icmp_ne (tgt := 64) hx hb dX7_byAddress_49 (by decide) (fun c10 => ?_) (fun c10 => ?_)
      · skip
        refine lv_iload_n hx hb dX7_byAddress_64 rfl (lv_at hl 1 rfl) ?_
        refine lv_iconst (v := 5) hx hb dX7_byAddress_65 (by decide) ?_
        refine lv_icmp_ne (tgt := 82) hx hb dX7_byAddress_66 (by decide) (fun c11 => ?_) (fun c11 => ?_)
        · skip
          refine lv_iload_n hx hb dX7_byAddress_82 rfl (lv_at hl 1 rfl) ?_
          refine lv_iconst (v := 2) hx hb dX7_byAddress_83 (by decide) ?_
          refine lv_irem hx hb dX7_byAddress_84 (by decide) ?_
          refine lv_if_ne (tgt := 103) hx hb dX7_byAddress_85 (by decide) (fun c12 => ?_) (fun c12 => ?_)
          · skip
            refine lv_aload_n hx hb dX7_byAddress_103 rfl (lv_at hl 0 rfl) ?_
            refine va_get (D := (dC, dI)) (ci := 7) (v := .ref rgA) (C := RX7) (T := TX7) (N := 30) hx hb hts iX7_byAddress_X7 hown hK hP 0 rfl rfl 3 (by decide) (hts _ qX7_byAddress_1) (fun _ h9 => h9) rfl dX7_byAddress_104 ?_
            refine lv_bipush (v := 7) hx hb dX7_byAddress_107 (by decide) ?_
            refine lv_aload_n hx hb dX7_byAddress_109 rfl (lv_at hl 0 rfl) ?_
            refine lv_iload_n hx hb dX7_byAddress_110 rfl (lv_at hl 2 rfl) ?_
            obtain ⟨hPc, hDc, hFc⟩ := xM_M hP hD hS hA
            have hKc := hK.sub (tys' := [(cI, .int)]) [0] rfl
            refine va_calli (va_runV (As := [.int (f_X7_pair u (a1 / (2 : Int32)))]) (rest := [.int 7, .ref rgA]) ⟨hx, hb, hml, hown, hts⟩ (k_X7_get l dC dI cI mO memA dskA rgA inA outA H.size (sMW_spent u (if (4 : Int32) ≤ a1 then (if (6 : Int32) ≤ a1 then 13 else 16 : Int32) else 7 : Int32)) (f_X7_pair u (a1 / (2 : Int32)))) (cwV 1 hts gX7_byAddress_X7_get rfl rfl rfl (by decide +kernel) ⟨Nat.le_of_ble_eq_true rfl, Nat.le_of_ble_eq_true rfl⟩) ⟨fun a U g mk q => by obtain ⟨q0, q1, qP, qK, qD⟩ := q; exact ⟨q0, q1, qP, va_K.moved (u := U) (U := U.calling g mk a) (Vm.Alike.refl U.vm) qK, qD⟩, va_recv hKc hPc (ci := 7) (q0 := 0) rfl rfl, fun U hU hW => ⟨rfl, by rw [hU], by rw [hU]; exact hPc, va_K.moved hW.alike hKc, hDc.weaken (fun _ _ _ _ => trivial)⟩⟩ rfl rfl hl.1 rfl (lv_room (Nat.le_of_ble_eq_true rfl)) dX7_byAddress_111 ⟨Nat.le_of_ble_eq_true rfl, Nat.le_of_ble_eq_true rfl⟩) hS (fun q _ h => hFc q h) hFc (fun r9 u9 t H1 locs ht hvm hw hB hz1 hk1 hS => ?_)
            obtain ⟨hw1, hw2⟩ := hw
            have hw2 := hw2.symm
            subst hw1 hw2
            obtain ⟨hP1, hK1, hD1⟩ := hB
            rw [ht] at hP1
            obtain ⟨hP, hD⟩ := jM_M0 hP hD hk1 hFc hP1 hD1
            clear hPc hDc hKc hFc hz1 hk1 hP1 hK1 hD1 ht hvm
            generalize H1 = H at hP hS ⊢
            refine va_iast (f := (gMW_r (sMW_spent u (if (4 : Int32) ≤ a1 then (if (6 : Int32) ≤ a1 then 13 else 16 : Int32) else 7 : Int32)))) hx hb hK hP hD hS 3 0 rfl rfl (ix_lit (by decide)) dX7_byAddress_114 (fun H locs hP hD hS => ?_)
            obtain ⟨hP, hD⟩ := aM_rgA hP hD
            exact W.vret hx hb hr (fun t ht hW => ⟨⟨(sMW_r (sMW_spent u (if (4 : Int32) ≤ a1 then (if (6 : Int32) ≤ a1 then 13 else 16 : Int32) else 7 : Int32)) (upd (gMW_r (sMW_spent u (if (4 : Int32) ≤ a1 then (if (6 : Int32) ≤ a1 then 13 else 16 : Int32) else 7 : Int32))) (7 : Int32).toNatClampNeg (f_X7_get (sMW_spent u (if (4 : Int32) ≤ a1 then (if (6 : Int32) ≤ a1 then 13 else 16 : Int32) else 7 : Int32)) (f_X7_pair u (a1 / (2 : Int32)))))), rfl, (by simp only [f_X7_byAddress, if_neg c1, if_neg c10, if_neg c11, if_neg c12]), by rw [ht]; exact hP, va_K.moved hW.alike hK, hD⟩, hS.F ht⟩) hS.2.2 dX7_byAddress_115
          · skip
            refine lv_aload_n hx hb dX7_byAddress_88 rfl (lv_at hl 0 rfl) ?_
            refine lv_iload_n hx hb dX7_byAddress_89 rfl (lv_at hl 2 rfl) ?_
            refine lv_aload_n hx hb dX7_byAddress_90 rfl (lv_at hl 0 rfl) ?_
            refine va_get (D := (dC, dI)) (ci := 7) (v := .ref rgA) (C := RX7) (T := TX7) (N := 30) hx hb hts iX7_byAddress_X7 hown hK hP 0 rfl rfl 3 (by decide) (hts _ qX7_byAddress_1) (fun _ h9 => h9) rfl dX7_byAddress_91 ?_
            refine lv_bipush (v := 7) hx hb dX7_byAddress_94 (by decide) ?_
            refine va_iald (f := (gMW_r (sMW_spent u (if (4 : Int32) ≤ a1 then (if (6 : Int32) ≤ a1 then 13 else 16 : Int32) else 7 : Int32)))) hx hb hK hP 3 0 rfl rfl (ix_lit (by decide)) dX7_byAddress_96 ?_
            obtain ⟨hPc, hDc, hFc⟩ := xM_M hP hD hS hA
            have hKc := hK.sub (tys' := [(cI, .int)]) [0] rfl
            refine va_callv (va_runV (As := [.int (f_X7_pair u (a1 / (2 : Int32))), .int ((gMW_r (sMW_spent u (if (4 : Int32) ≤ a1 then (if (6 : Int32) ≤ a1 then 13 else 16 : Int32) else 7 : Int32))) (7 : Int32).toNatClampNeg)]) (rest := []) ⟨hx, hb, hml, hown, hts⟩ (k_X7_set l dC dI cI mO memA dskA rgA inA outA H.size (sMW_spent u (if (4 : Int32) ≤ a1 then (if (6 : Int32) ≤ a1 then 13 else 16 : Int32) else 7 : Int32)) (f_X7_pair u (a1 / (2 : Int32))) ((gMW_r (sMW_spent u (if (4 : Int32) ≤ a1 then (if (6 : Int32) ≤ a1 then 13 else 16 : Int32) else 7 : Int32))) (7 : Int32).toNatClampNeg)) (cwV 2 hts gX7_byAddress_X7_set rfl rfl rfl (by decide +kernel) ⟨Nat.le_of_ble_eq_true rfl, Nat.le_of_ble_eq_true rfl⟩) ⟨fun a U g mk q => by obtain ⟨q0, q1, qP, qK, qD⟩ := q; exact ⟨q0, q1, qP, va_K.moved (u := U) (U := U.calling g mk a) (Vm.Alike.refl U.vm) qK, qD⟩, va_recv hKc hPc (ci := 7) (q0 := 0) rfl rfl, fun U hU hW => ⟨rfl, by rw [hU], by rw [hU]; exact hPc, va_K.moved hW.alike hKc, hDc.weaken (fun _ _ _ _ => trivial)⟩⟩ rfl rfl hl.1 rfl (lv_room (Nat.le_of_ble_eq_true rfl)) dX7_byAddress_97 ⟨Nat.le_of_ble_eq_true rfl, Nat.le_of_ble_eq_true rfl⟩) hS (fun q _ h => hFc q h) hFc (fun u9 t H1 locs ht hvm hw hB hz1 hk1 hS => ?_)
            subst hw
            obtain ⟨hP1, hK1, hD1⟩ := hB
            rw [ht] at hP1
            obtain ⟨hP, hD⟩ := jM_M hP hD hk1 hFc hP1 hD1
            clear hPc hDc hKc hFc hz1 hk1 hP1 hK1 hD1 ht hvm
            generalize H1 = H at hP hS ⊢
            refine lv_goto (tgt := 115) hx hb dX7_byAddress_100 (by decide) ?_
            exact W.vret hx hb hr (fun t ht hW => ⟨⟨(f_X7_set (sMW_spent u (if (4 : Int32) ≤ a1 then (if (6 : Int32) ≤ a1 then 13 else 16 : Int32) else 7 : Int32)) (f_X7_pair u (a1 / (2 : Int32))) ((gMW_r (sMW_spent u (if (4 : Int32) ≤ a1 then (if (6 : Int32) ≤ a1 then 13 else 16 : Int32) else 7 : Int32))) (7 : Int32).toNatClampNeg)), rfl, (by simp only [f_X7_byAddress, if_neg c1, if_neg c10, if_neg c11, if_pos c12]), by rw [ht]; exact hP, va_K.moved hW.alike hK, hD⟩, hS.F ht⟩) hS.2.2 dX7_byAddress_115
        · skip
          refine lv_aload_n hx hb dX7_byAddress_69 rfl (lv_at hl 0 rfl) ?_
          refine lv_iconst (v := 2) hx hb dX7_byAddress_70 (by decide) ?_
          refine lv_aload_n hx hb dX7_byAddress_71 rfl (lv_at hl 0 rfl) ?_
          refine lv_iload_n hx hb dX7_byAddress_72 rfl (lv_at hl 2 rfl) ?_
          obtain ⟨hPc, hDc, hFc⟩ := xM_M hP hD hS hA
          have hKc := hK.sub (tys' := [(cI, .int)]) [0] rfl
          refine va_calli (va_runV (As := [.int (f_X7_pair u (a1 / (2 : Int32)))]) (rest := [.int 2, .ref mO]) ⟨hx, hb, hml, hown, hts⟩ (k_X7_getWord l dC dI cI mO memA dskA rgA inA outA H.size (sMW_spent u (if (4 : Int32) ≤ a1 then (if (6 : Int32) ≤ a1 then 13 else 16 : Int32) else 7 : Int32)) (f_X7_pair u (a1 / (2 : Int32)))) (cwV 1 hts gX7_byAddress_X7_getWord rfl rfl rfl (by decide +kernel) ⟨Nat.le_of_ble_eq_true rfl, Nat.le_of_ble_eq_true rfl⟩) ⟨fun a U g mk q => by obtain ⟨q0, q1, qP, qK, qD⟩ := q; exact ⟨q0, q1, qP, va_K.moved (u := U) (U := U.calling g mk a) (Vm.Alike.refl U.vm) qK, qD⟩, va_recv hKc hPc (ci := 7) (q0 := 0) rfl rfl, fun U hU hW => ⟨rfl, by rw [hU], by rw [hU]; exact hPc, va_K.moved hW.alike hKc, hDc.weaken (fun _ _ _ _ => trivial)⟩⟩ rfl rfl hl.1 rfl (lv_room (Nat.le_of_ble_eq_true rfl)) dX7_byAddress_73 ⟨Nat.le_of_ble_eq_true rfl, Nat.le_of_ble_eq_true rfl⟩) hS (fun q _ h => hFc q h) hFc (fun r9 u9 t H1 locs ht hvm hw hB hz1 hk1 hS => ?_)
          obtain ⟨hw1, hw2⟩ := hw
          have hw2 := hw2.symm
          subst hw1 hw2
          obtain ⟨hP1, hK1, hD1⟩ := hB
          rw [ht] at hP1
          obtain ⟨hP, hD⟩ := jM_M0 hP hD hk1 hFc hP1 hD1
          clear hPc hDc hKc hFc hz1 hk1 hP1 hK1 hD1 ht hvm
          generalize H1 = H at hP hS ⊢
          obtain ⟨hPc, hDc, hFc⟩ := xM_M hP hD hS hA
          have hKc := hK.sub (tys' := [(cI, .int)]) [0] rfl
          refine va_callv (va_runV (As := [.int 2, .int (f_X7_getWord (sMW_spent u (if (4 : Int32) ≤ a1 then (if (6 : Int32) ≤ a1 then 13 else 16 : Int32) else 7 : Int32)) (f_X7_pair u (a1 / (2 : Int32))))]) (rest := []) ⟨hx, hb, hml, hown, hts⟩ (k_X7_setPair l dC dI cI mO memA dskA rgA inA outA H.size (sMW_spent u (if (4 : Int32) ≤ a1 then (if (6 : Int32) ≤ a1 then 13 else 16 : Int32) else 7 : Int32)) 2 (f_X7_getWord (sMW_spent u (if (4 : Int32) ≤ a1 then (if (6 : Int32) ≤ a1 then 13 else 16 : Int32) else 7 : Int32)) (f_X7_pair u (a1 / (2 : Int32)))) (ix_lit (by decide))) (cwV 2 hts gX7_byAddress_X7_setPair rfl rfl rfl (by decide +kernel) ⟨Nat.le_of_ble_eq_true rfl, Nat.le_of_ble_eq_true rfl⟩) ⟨fun a U g mk q => by obtain ⟨q0, q1, qP, qK, qD⟩ := q; exact ⟨q0, q1, qP, va_K.moved (u := U) (U := U.calling g mk a) (Vm.Alike.refl U.vm) qK, qD⟩, va_recv hKc hPc (ci := 7) (q0 := 0) rfl rfl, fun U hU hW => ⟨rfl, by rw [hU], by rw [hU]; exact hPc, va_K.moved hW.alike hKc, hDc.weaken (fun _ _ _ _ => trivial)⟩⟩ rfl rfl hl.1 rfl (lv_room (Nat.le_of_ble_eq_true rfl)) dX7_byAddress_76 ⟨Nat.le_of_ble_eq_true rfl, Nat.le_of_ble_eq_true rfl⟩) hS (fun q _ h => hFc q h) hFc (fun u9 t H1 locs ht hvm hw hB hz1 hk1 hS => ?_)
          subst hw
          obtain ⟨hP1, hK1, hD1⟩ := hB
          rw [ht] at hP1
          obtain ⟨hP, hD⟩ := jM_M hP hD hk1 hFc hP1 hD1
          clear hPc hDc hKc hFc hz1 hk1 hP1 hK1 hD1 ht hvm
          generalize H1 = H at hP hS ⊢
          refine lv_goto (tgt := 115) hx hb dX7_byAddress_79 (by decide) ?_
          exact W.vret hx hb hr (fun t ht hW => ⟨⟨(f_X7_setPair (sMW_spent u (if (4 : Int32) ≤ a1 then (if (6 : Int32) ≤ a1 then 13 else 16 : Int32) else 7 : Int32)) 2 (f_X7_getWord (sMW_spent u (if (4 : Int32) ≤ a1 then (if (6 : Int32) ≤ a1 then 13 else 16 : Int32) else 7 : Int32)) (f_X7_pair u (a1 / (2 : Int32))))), rfl, (by simp only [f_X7_byAddress, if_neg c1, if_neg c10, if_pos c11]), by rw [ht]; exact hP, va_K.moved hW.alike hK, hD⟩, hS.F ht⟩) hS.2.2 dX7_byAddress_115
      · skip
        refine lv_aload_n hx hb dX7_byAddress_52 rfl (lv_at hl 0 rfl) ?_
        refine lv_iload_n hx hb dX7_byAddress_53 rfl (lv_at hl 2 rfl) ?_
        refine lv_aload_n hx hb dX7_byAddress_54 rfl (lv_at hl 0 rfl) ?_
        obtain ⟨hPc, hDc, hFc⟩ := xM_M hP hD hS hA
        have hKc := hK.sub (tys' := [(cI, .int)]) [0] rfl
        refine va_calli (va_runV (As := []) (rest := [.int (f_X7_pair u (a1 / (2 : Int32))), .ref mO]) ⟨hx, hb, hml, hown, hts⟩ (k_X7_hl l dC dI cI mO memA dskA rgA inA outA H.size (sMW_spent u (if (4 : Int32) ≤ a1 then (if (6 : Int32) ≤ a1 then 13 else 16 : Int32) else 7 : Int32))) (cwV 0 hts gX7_byAddress_X7_hl rfl rfl rfl (by decide +kernel) ⟨Nat.le_of_ble_eq_true rfl, Nat.le_of_ble_eq_true rfl⟩) ⟨fun a U g mk q => by obtain ⟨q0, q1, qP, qK, qD⟩ := q; exact ⟨q0, q1, qP, va_K.moved (u := U) (U := U.calling g mk a) (Vm.Alike.refl U.vm) qK, qD⟩, va_recv hKc hPc (ci := 7) (q0 := 0) rfl rfl, fun U hU hW => ⟨rfl, by rw [hU], by rw [hU]; exact hPc, va_K.moved hW.alike hKc, hDc.weaken (fun _ _ _ _ => trivial)⟩⟩ rfl rfl hl.1 rfl (lv_room (Nat.le_of_ble_eq_true rfl)) dX7_byAddress_55 ⟨Nat.le_of_ble_eq_true rfl, Nat.le_of_ble_eq_true rfl⟩) hS (fun q _ h => hFc q h) hFc (fun r9 u9 t H1 locs ht hvm hw hB hz1 hk1 hS => ?_)
        obtain ⟨hw1, hw2⟩ := hw
        have hw2 := hw2.symm
        subst hw1 hw2
        obtain ⟨hP1, hK1, hD1⟩ := hB
        rw [ht] at hP1
        obtain ⟨hP, hD⟩ := jM_M0 hP hD hk1 hFc hP1 hD1
        clear hPc hDc hKc hFc hz1 hk1 hP1 hK1 hD1 ht hvm
        generalize H1 = H at hP hS ⊢
        obtain ⟨hPc, hDc, hFc⟩ := xM_M hP hD hS hA
        have hKc := hK.sub (tys' := [(cI, .int)]) [0] rfl
        refine va_callv (va_runV (As := [.int (f_X7_pair u (a1 / (2 : Int32))), .int (f_X7_hl (sMW_spent u (if (4 : Int32) ≤ a1 then (if (6 : Int32) ≤ a1 then 13 else 16 : Int32) else 7 : Int32)))]) (rest := []) ⟨hx, hb, hml, hown, hts⟩ (k_X7_setWord l dC dI cI mO memA dskA rgA inA outA H.size (sMW_spent u (if (4 : Int32) ≤ a1 then (if (6 : Int32) ≤ a1 then 13 else 16 : Int32) else 7 : Int32)) (f_X7_pair u (a1 / (2 : Int32))) (f_X7_hl (sMW_spent u (if (4 : Int32) ≤ a1 then (if (6 : Int32) ≤ a1 then 13 else 16 : Int32) else 7 : Int32)))) (cwV 2 hts gX7_byAddress_X7_setWord rfl rfl rfl (by decide +kernel) ⟨Nat.le_of_ble_eq_true rfl, Nat.le_of_ble_eq_true rfl⟩) ⟨fun a U g mk q => by obtain ⟨q0, q1, qP, qK, qD⟩ := q; exact ⟨q0, q1, qP, va_K.moved (u := U) (U := U.calling g mk a) (Vm.Alike.refl U.vm) qK, qD⟩, va_recv hKc hPc (ci := 7) (q0 := 0) rfl rfl, fun U hU hW => ⟨rfl, by rw [hU], by rw [hU]; exact hPc, va_K.moved hW.alike hKc, hDc.weaken (fun _ _ _ _ => trivial)⟩⟩ rfl rfl hl.1 rfl (lv_room (Nat.le_of_ble_eq_true rfl)) dX7_byAddress_58 ⟨Nat.le_of_ble_eq_true rfl, Nat.le_of_ble_eq_true rfl⟩) hS (fun q _ h => hFc q h) hFc (fun u9 t H1 locs ht hvm hw hB hz1 hk1 hS => ?_)
        subst hw
        obtain ⟨hP1, hK1, hD1⟩ := hB
        rw [ht] at hP1
        obtain ⟨hP, hD⟩ := jM_M hP hD hk1 hFc hP1 hD1
        clear hPc hDc hKc hFc hz1 hk1 hP1 hK1 hD1 ht hvm
        generalize H1 = H at hP hS ⊢
        refine lv_goto (tgt := 115) hx hb dX7_byAddress_61 (by decide) ?_
        exact W.vret hx hb hr (fun t ht hW => ⟨⟨(f_X7_setWord (sMW_spent u (if (4 : Int32) ≤ a1 then (if (6 : Int32) ≤ a1 then 13 else 16 : Int32) else 7 : Int32)) (f_X7_pair u (a1 / (2 : Int32))) (f_X7_hl (sMW_spent u (if (4 : Int32) ≤ a1 then (if (6 : Int32) ≤ a1 then 13 else 16 : Int32) else 7 : Int32)))), rfl, (by simp only [f_X7_byAddress, if_neg c1, if_pos c10]), by rw [ht]; exact hP, va_K.moved hW.alike hK, hD⟩, hS.F ht⟩) hS.2.2 dX7_byAddress_115
    · skip
      refine lv_icmp_ge (tgt := 31) hx hb dX7_byAddress_23 (by decide) (fun c13 => ?_) (fun c13 => ?_)
      · skip
        refine lv_iload_n hx hb dX7_byAddress_31 rfl (lv_at hl 2 rfl) ?_
        refine lv_bipush (v := 6) hx hb dX7_byAddress_32 (by decide) ?_
        refine jn_i (D := (dC, dI)) (cl := vwCl) (ws := (wM cI mO memA dskA rgA inA outA u)) (A := A) (H0 := s.heap) (nL := 3) 44 (if (6 : Int32) ≤ a1 then 13 else 16 : Int32) [(0, .ref mO), (1, .int a1), (2, .int (f_X7_pair u (a1 / (2 : Int32))))] [.ref mO] (fun H locs ls hP hS hl => ?_) (fun hJ14 => ?_)
        · skip
          exact hJ9 (if (6 : Int32) ≤ a1 then 13 else 16 : Int32) _ _ _ (by simp only [if_pos c13]) hP hS (lv_sub hl [0, 1, 2] rfl)
        · skip
          refine lv_icmp_ge (tgt := 42) hx hb dX7_byAddress_34 (by decide) (fun c15 => ?_) (fun c15 => ?_)
          · skip
            refine lv_bipush (v := 13) hx hb dX7_byAddress_42 (by decide) ?_
            exact hJ14 13 _ _ _ (by simp only [if_pos c15]) hP hS (lv_sub hl [1, 2, 0] rfl)
          · skip
            refine lv_bipush (v := 16) hx hb dX7_byAddress_37 (by decide) ?_
            refine lv_goto (tgt := 44) hx hb dX7_byAddress_39 (by decide) ?_
            exact hJ14 16 _ _ _ (by simp only [if_neg c15]) hP hS (lv_sub hl [1, 2, 0] rfl)
      · skip
        refine lv_bipush (v := 7) hx hb dX7_byAddress_26 (by decide) ?_
        refine lv_goto (tgt := 44) hx hb dX7_byAddress_28 (by decide) ?_
        exact hJ9 7 _ _ _ (by simp only [if_neg c13]) hP hS (lv_sub hl [1, 2, 0] rfl)
