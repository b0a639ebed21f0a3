def f_X5_weighedTotal (u : (Nat → Int32)) : Int32 := wsum u 4096
theorem qX5_weighedTotal_0 : Cond.fieldLink RX5 11 "DiskMachine$Store" "bytes" "[I" ∈ wsX5_weighedTotal := by decide +kernel
theorem iX5_weighedTotal_X5 : ∀ w ∈ wsX50, w ∈ wsX5_weighedTotal := by decide +kernel
set_option maxHeartbeats 4000000 in
set_option maxRecDepth 100000 in
theorem k_X5_weighedTotal (l : Launch) (dC : Nat → ClassId) (dI : Nat → Nat → Nat) (cI : ClassId) (mS mA : Nat) (sz : Nat) (u : (Nat → Int32)) : Met l yX5_weighedTotal wsX5_weighedTotal ({ frames := 0, cells := 0, slots := 0, locals := 0 }) (va_Pc [.ref mS] (wB dC dI [(cI, .int)] sz (wS cI mS mA u))) (va_Qi (fun (r : Int32) (u' : (Nat → Int32)) => r = (f_X5_weighedTotal u) ∧ u' = u) (fun u' => wE dC dI [(cI, .int)] (va_A (wS cI mS mA u) sz) (wS cI mS mA u')) (va_A (wS cI mS mA u) sz)) 0 0 (va_A (wS cI mS mA u) sz) := by
  refine Met.ofW (cc := cX5_weighedTotal) (maxL := 3) (ret := (some .int)) (by decide) rfl ?_
  intro p e s m args below meth c s₁ B hml hv
  obtain ⟨rfl, hsz, hP, hK, hD0⟩ := hv
  have hx := B.exec
  have hb := B.bytes
  have hr := B.returns
  have hts := atoms_spec (ws := wsX5_weighedTotal) B.pre
  have hown : s.vm.findClass RX5 = some m.cls := findClass_of_methodNamed B.named
  have hlocks := B.notSynchronized
  subst hsz
  have hD := hD0.self (sz := s.heap.size)
  generalize hAe : va_A (wS cI mS mA u) s.heap.size = A at hD ⊢
  have hA : ∀ q : Nat, s.heap.size ≤ q → A q := fun q h => by rw [← hAe]; exact Or.inr h
  have hS : va_S A s.heap s.heap [] := va_S.rf
  have hP : va_P (dC, dI) vwCl (wS cI mS mA u) s.heap := hP
  clear hAe hD0
  have hl := lv_entry ([.ref mS]) (n := 3) (Nat.le_of_ble_eq_true rfl)
  rw [lg_entry_eq]
  generalize (lg_sl ([.ref mS]) ++ List.replicate (3 - (lg_sl ([.ref mS])).length) Slot.unset).toArray = ls at hl ⊢
  have hl : lv_has ls 3 [(0, .ref mS)] := hl
  refine jn_H hP hS (fun H locs hP hS => ?_)
  refine lv_iconst (v := 0) hx hb dX5_weighedTotal_0 (by decide) ?_
  refine lv_istore_n (lv' := [(1, .int 0), (0, .ref mS)]) hx hb dX5_weighedTotal_1 rfl hl (by decide) rfl (fun ls hl => ?_)
  refine lv_iconst (v := 0) hx hb dX5_weighedTotal_2 (by decide) ?_
  refine lv_istore_n (lv' := [(2, .int 0), (1, .int 0), (0, .ref mS)]) hx hb dX5_weighedTotal_3 rfl hl (by decide) rfl (fun ls hl => ?_)
  refine jn_lp (D := (dC, dI)) (cl := vwCl) (A := A) (H0 := s.heap) (nL := 3) (σ := Nat × Int32 × Int32) 4 (fun x => [(0, .ref mS), (1, .int x.2.2), (2, .int x.2.1)]) (fun x => (wS cI mS mA u)) (fun n x => x.1 + n = 4097 ∧ x.1 ≤ 4096 ∧ x.2.1 = nI x.1 ∧ x.2.2 = wsum u x.1) (fun x h => ?_) (fun n ih x H locs ls hI hP hD hS hl => ?_) (fun hloop => ?_)
  · obtain ⟨j, i, tt⟩ := x
    try dsimp only at h
    obtain ⟨h1, h2, _⟩ := h
    omega
  · obtain ⟨j, i, tt⟩ := x
    try dsimp only at hI
    obtain ⟨hn, hj, hi, ht9⟩ := hI
    have hP : va_P (dC, dI) vwCl (wS cI mS mA u) H := hP
    have hD : va_D A (wS cI mS mA u) := hD
    have hl : lv_has ls 3 [(0, .ref mS), (1, .int tt), (2, .int i)] := hl
    refine lv_iload_n hx hb dX5_weighedTotal_4 rfl (lv_at hl 2 rfl) ?_
    refine lv_sipush (v := 4096) hx hb dX5_weighedTotal_5 (by decide) ?_
    refine lv_icmp_ge (tgt := 30) hx hb dX5_weighedTotal_8 (by decide) (fun c1 => ?_) (fun c1 => ?_)
    · skip
      obtain rfl : j = 4096 := Nat.le_antisymm hj (Nat.le_of_not_lt (fun z => absurd c1 (by rw [hi]; exact nI_ge z (by decide))))
      refine lv_iload_n hx hb dX5_weighedTotal_30 rfl (lv_at hl 1 rfl) ?_
      exact W.iret (v := tt) hx hb hr (fun t ht hW => ⟨⟨tt, u, rfl, ⟨ht9, rfl⟩, by rw [ht]; exact hP, va_K.moved hW.alike hK, hD⟩, hS.F ht⟩) hS.2.2 dX5_weighedTotal_31
    · skip
      refine lv_iload_n hx hb dX5_weighedTotal_11 rfl (lv_at hl 1 rfl) ?_
      refine lv_aload_n hx hb dX5_weighedTotal_12 rfl (lv_at hl 0 rfl) ?_
      refine va_get (D := (dC, dI)) (ci := 5) (v := .ref mA) (C := RX5) (T := TX5) (N := 1) hx hb hts iX5_weighedTotal_X5 hown hK hP 0 rfl rfl 0 (by decide) (hts _ qX5_weighedTotal_0) (fun _ h9 => h9) rfl dX5_weighedTotal_13 ?_
      refine lv_iload_n hx hb dX5_weighedTotal_16 rfl (lv_at hl 2 rfl) ?_
      refine va_iald (f := u) hx hb hK hP 1 0 rfl rfl (by rw [hi]; exact vp_in_nI (by have q := c1; rw [hi] at q; exact Nat.lt_of_not_le (fun z => q (nI_le (a := 4096) z (by omega)))) (by decide)) dX5_weighedTotal_17 ?_
      refine lv_iload_n hx hb dX5_weighedTotal_18 rfl (lv_at hl 2 rfl) ?_
      refine lv_iconst (v := 1) hx hb dX5_weighedTotal_19 (by decide) ?_
      refine lv_iadd hx hb dX5_weighedTotal_20 ?_
      refine lv_imul hx hb dX5_weighedTotal_21 ?_
      refine lv_iadd hx hb dX5_weighedTotal_22 ?_
      refine lv_istore_n (lv' := [(1, .int (tt + ((u (i : Int32).toNatClampNeg) * (i + (1 : Int32))))), (0, .ref mS), (2, .int i)]) hx hb dX5_weighedTotal_23 rfl hl (by decide) rfl (fun ls hl => ?_)
      refine lv_iinc (v := (i + (1 : Int32))) (lv' := [(2, .int (i + (1 : Int32))), (1, .int (tt + ((u (i : Int32).toNatClampNeg) * (i + (1 : Int32))))), (0, .ref mS)]) hx hb dX5_weighedTotal_24 hl (k := 2) rfl rfl (by decide) rfl (fun ls hl => ?_)
      refine lv_goto (tgt := 4) hx hb dX5_weighedTotal_27 (by decide) ?_
      exact ih ((j + 1), (i + (1 : Int32)), (tt + ((u (i : Int32).toNatClampNeg) * (i + (1 : Int32))))) _ _ _ (⟨by omega, Nat.lt_of_not_le (fun z => c1 (by rw [hi]; exact nI_le (a := 4096) z (by omega))), by rw [hi]; exact nI_1 j, by subst hi; rw [ht9, nI_clamp (show j < 2 ^ 31 by omega)]; rfl⟩) hP hD hS (lv_sub hl [2, 1, 0] rfl)
  · exact hloop 4097 (0, 0, 0) _ _ _ (⟨rfl, Nat.zero_le _, rfl, rfl⟩) hP hD hS (lv_sub hl [2, 1, 0] rfl)

/-- the controller's loop: at most n bytes -/
def lpK : Nat → KW → KW
  | 0, u => u
  | n + 1, u => if (gKW_K_mov u) < 64 then lpK n (f_X2_moveByte u) else u
theorem lpK_stop {n : Nat} {u : KW} (h : (64 : Int32) ≤ gKW_K_mov u) : lpK n u = u := by
  cases n with
  | zero => rfl
  | succ n => exact if_neg (Int32.not_lt.mpr h)
theorem lp_back {jv n : Nat} {dd : Int32} {vv T : KW} (hn9 : jv < n + 1) (hd9 : (jv = 0 ∧ dd ≤ 0) ∨ (0 < jv ∧ dd = nI jv)) (hj9 : jv < 2 ^ 31) (hv9 : lpK jv vv = T) (h1 : ¬ dd ≤ 0) (h2 : ¬ (64 : Int32) ≤ gKW_K_mov vv) :
    jv - 1 < n ∧ ((jv - 1 = 0 ∧ dd + (-1) ≤ 0) ∨ (0 < jv - 1 ∧ dd + (-1) = nI (jv - 1))) ∧ jv - 1 < 2 ^ 31 ∧ lpK (jv - 1) (f_X2_moveByte vv) = T := by
  rcases hd9 with ⟨_, q2⟩ | ⟨q1, q2⟩
  · exact absurd q2 h1
  · obtain ⟨j9, rfl⟩ : ∃ z, jv = z + 1 := ⟨jv - 1, by omega⟩
    refine ⟨by omega, ?_, by omega, ?_⟩
    · rcases Nat.eq_zero_or_pos j9 with z | z
      · subst z
        rw [q2]
        exact Or.inl ⟨rfl, by decide⟩
      · refine Or.inr ⟨z, ?_⟩
        rw [q2]
        exact pk_m1 j9
    · rw [← hv9]
      exact (if_pos (Int32.not_le.mp h2)).symm
theorem due_ok (x : Int32) : (x.toNatClampNeg = 0 ∧ x ≤ 0) ∨ (0 < x.toNatClampNeg ∧ x = nI x.toNatClampNeg) := by
  by_cases h : x ≤ 0
  · refine Or.inl ⟨?_, h⟩
    have h1 := Int32.le_iff_toInt_le.mp h
    have h2 : (0 : Int32).toInt = 0 := rfl
    show x.toInt.toNat = 0
    omega
  · obtain ⟨k, hk, rfl⟩ := nI_of (x := x) (fun z => h (Int32.le_of_lt z))
    refine Or.inr ?_
    rw [nI_clamp hk]
    refine ⟨?_, rfl⟩
    rcases Nat.eq_zero_or_pos k with q | q
    · subst q; exact absurd (by decide) h
    · exact q
def f_X2_letPass (u : KW) (a1 : Int32) : Int32 × KW := 
  if (bI (f_X2_isBusy u)) = (0 : Int32) then ((-1), u)
  else if (bI (gKW_K_just u)) = (0 : Int32) then
    (if (64 : Int32) ≤ (gKW_K_mov (lpK (((gKW_K_left u) + a1) / (12 : Int32)).toNatClampNeg (sKW_K_left u (((gKW_K_left u) + a1) - ((gKW_K_left u) + a1) / (12 : Int32) * (12 : Int32))))) then ((f_X2_finish (lpK (((gKW_K_left u) + a1) / (12 : Int32)).toNatClampNeg (sKW_K_left u (((gKW_K_left u) + a1) - ((gKW_K_left u) + a1) / (12 : Int32) * (12 : Int32))))).1, (f_X2_finish (lpK (((gKW_K_left u) + a1) / (12 : Int32)).toNatClampNeg (sKW_K_left u (((gKW_K_left u) + a1) - ((gKW_K_left u) + a1) / (12 : Int32) * (12 : Int32))))).2) else ((-1), (lpK (((gKW_K_left u) + a1) / (12 : Int32)).toNatClampNeg (sKW_K_left u (((gKW_K_left u) + a1) - ((gKW_K_left u) + a1) / (12 : Int32) * (12 : Int32))))))
  else ((-1), (sKW_K_just u false))
theorem qX2_letPass_0 : Cond.fieldLink RX2 49 "DiskMachine$Controller" "commandJustCame" "Z" ∈ wsX2_letPass := by decide +kernel
theorem qX2_letPass_1 : Cond.fieldLink RX2 46 "DiskMachine$Controller" "cyclesLeftOver" "I" ∈ wsX2_letPass := by decide +kernel
theorem qX2_letPass_2 : Cond.fieldLink RX2 43 "DiskMachine$Controller" "moved" "I" ∈ wsX2_letPass := by decide +kernel
theorem iX2_letPass_X2 : ∀ w ∈ wsX20, w ∈ wsX2_letPass := by decide +kernel
set_option maxHeartbeats 4000000 in
set_option maxRecDepth 100000 in
theorem k_X2_letPass (l : Launch) (dC : Nat → ClassId) (dI : Nat → Nat → Nat) (cI : ClassId) (kO mS mA dS dA : Nat) (sz : Nat) (u : KW) (a1 : Int32) : Met l yX2_letPass wsX2_letPass ({ frames := 2, cells := 0, slots := 0, locals := 43 }) (va_Pc [.ref kO, .int a1] (wB dC dI [(cI, .int)] sz (wK cI kO mS mA dS dA u))) (va_Qi (fun (r : Int32) (u' : KW) => r = (f_X2_letPass u a1).1 ∧ u' = (f_X2_letPass u a1).2) (fun u' => wE dC dI [(cI, .int)] (va_A (wK cI kO mS mA dS dA u) sz) (wK cI kO mS mA dS dA u')) (va_A (wK cI kO mS mA dS dA u) sz)) 0 0 (va_A (wK cI kO mS mA dS dA u) sz) := by
  refine Met.ofW (cc := cX2_letPass) (maxL := 4) (ret := (some .int)) (by decide) rfl ?_
  intro p e s m args below meth c s₁ B hml hv
  obtain ⟨rfl, hsz, hP, hK, hD0⟩ := hv
  have hx := B.exec
  have hb := B.bytes
  have hr := B.returns
  have hts := atoms_spec (ws := wsX2_letPass) B.pre
  have hown : s.vm.findClass RX2 = some m.cls := findClass_of_methodNamed B.named
  have hlocks := B.notSynchronized
  subst hsz
  have hD := hD0.self (sz := s.heap.size)
  generalize hAe : va_A (wK cI kO mS mA dS dA u) s.heap.size = A at hD ⊢
  have hA : ∀ q : Nat, s.heap.size ≤ q → A q := fun q h => by rw [← hAe]; exact Or.inr h
  have hS : va_S A s.heap s.heap [] := va_S.rf
  have hP : va_P (dC, dI) vwCl (wK cI kO mS mA dS dA u) s.heap := hP
  clear hAe hD0
  have hl := lv_entry ([.ref kO, .int a1]) (n := 4) (Nat.le_of_ble_eq_true rfl)
  rw [lg_entry_eq]
  generalize (lg_sl ([.ref kO, .int a1]) ++ List.replicate (4 - (lg_sl ([.ref kO, .int a1])).length) Slot.unset).toArray = ls at hl ⊢
  have hl : lv_has ls 4 [(0, .ref kO), (1, .int a1)] := hl
  refine jn_H hP hS (fun H locs hP hS => ?_)
  refine lv_aload_n hx hb dX2_letPass_0 rfl (lv_at hl 0 rfl) ?_
  obtain ⟨hPc, hDc, hFc⟩ := xK_K hP hD hS hA
  have hKc := hK.sub (tys' := [(cI, .int)]) [0] rfl
  refine va_calli (va_runV (As := []) (rest := []) ⟨hx, hb, hml, hown, hts⟩ (k_X2_isBusy l dC dI cI kO mS mA dS dA H.size u) (cwV 0 hts gX2_letPass_X2_isBusy rfl rfl rfl (by decide +kernel) ⟨Nat.le_of_ble_eq_true rfl, Nat.le_of_ble_eq_true rfl⟩) ⟨fun a U g mk q => by obtain ⟨q0, q1, qP, qK, qD⟩ := q; exact ⟨q0, q1, qP, va_K.moved (u := U) (U := U.calling g mk a) (Vm.Alike.refl U.vm) qK, qD⟩, va_recv hKc hPc (ci := 2) (q0 := 0) rfl rfl, fun U hU hW => ⟨rfl, by rw [hU], by rw [hU]; exact hPc, va_K.moved hW.alike hKc, hDc.weaken (fun _ _ _ _ => trivial)⟩⟩ rfl rfl hl.1 rfl (lv_room (Nat.le_of_ble_eq_true rfl)) dX2_letPass_1 ⟨Nat.le_of_ble_eq_true rfl, Nat.le_of_ble_eq_true rfl⟩) hS (fun q _ h => hFc q h) hFc (fun r9 u9 t H1 locs ht hvm hw hB hz1 hk1 hS => ?_)
  obtain ⟨hw1, hw2⟩ := hw
  have hw2 := hw2.symm
  subst hw1 hw2
  obtain ⟨hP1, hK1, hD1⟩ := hB
  rw [ht] at hP1
  obtain ⟨hP, hD⟩ := jK_K0 hP hD hk1 hFc hP1 hD1
  clear hPc hDc hKc hFc hz1 hk1 hP1 hK1 hD1 ht hvm
  generalize H1 = H at hP hS ⊢
  refine lv_if_ne (tgt := 9) hx hb dX2_letPass_4 (by decide) (fun c1 => ?_) (fun c1 => ?_)
  · skip
    refine lv_aload_n hx hb dX2_letPass_9 rfl (lv_at hl 0 rfl) ?_
    refine va_get (D := (dC, dI)) (ci := 2) (v := .int (bI (gKW_K_just u))) (C := RX2) (T := TX2) (N := 11) hx hb hts iX2_letPass_X2 hown hK hP 0 rfl rfl 10 (by decide) (hts _ qX2_letPass_0) (fun _ h9 => h9) rfl dX2_letPass_10 ?_
    refine lv_if_eq (tgt := 23) hx hb dX2_letPass_13 (by decide) (fun c2 => ?_) (fun c2 => ?_)
    · skip
      refine lv_aload_n hx hb dX2_letPass_23 rfl (lv_at hl 0 rfl) ?_
      refine va_get (D := (dC, dI)) (ci := 2) (v := .int (gKW_K_left u)) (C := RX2) (T := TX2) (N := 11) hx hb hts iX2_letPass_X2 hown hK hP 0 rfl rfl 9 (by decide) (hts _ qX2_letPass_1) (fun _ h9 => h9) rfl dX2_letPass_24 ?_
      refine lv_iload_n hx hb dX2_letPass_27 rfl (lv_at hl 1 rfl) ?_
      refine lv_iadd hx hb dX2_letPass_28 ?_
      refine lv_istore_n (lv' := [(2, .int ((gKW_K_left u) + a1)), (0, .ref kO), (1, .int a1)]) hx hb dX2_letPass_29 rfl hl (by decide) rfl (fun ls hl => ?_)
      refine lv_aload_n hx hb dX2_letPass_30 rfl (lv_at hl 1 rfl) ?_
      refine lv_iload_n hx hb dX2_letPass_31 rfl (lv_at hl 0 rfl) ?_
      refine lv_bipush (v := 12) hx hb dX2_letPass_32 (by decide) ?_
      refine lv_irem hx hb dX2_letPass_34 (by decide) ?_
      refine va_put (D := (dC, dI)) (ci := 2) (v := .int (((gKW_K_left u) + a1) - ((gKW_K_left u) + a1) / (12 : Int32) * (12 : Int32))) (ty := .int) (C := RX2) (T := TX2) (N := 11) hx hb hts iX2_letPass_X2 tyX2 tyX2_ok nmX2 hown hK hP hD hS 0 rfl rfl 9 (by decide) (hts _ qX2_letPass_1) (fun _ h9 => h9) rfl (by decide +kernel) rfl rfl (Nat.le_of_ble_eq_true rfl) dX2_letPass_35 (fun H locs hP hD hS => ?_)
      obtain ⟨hP, hD⟩ := pK_K_left hP hD
      refine lv_iload_n hx hb dX2_letPass_38 rfl (lv_at hl 0 rfl) ?_
      refine lv_bipush (v := 12) hx hb dX2_letPass_39 (by decide) ?_
      refine lv_idiv hx hb dX2_letPass_41 (by decide) ?_
      refine lv_istore_n (lv' := [(3, .int (((gKW_K_left u) + a1) / (12 : Int32))), (2, .int ((gKW_K_left u) + a1)), (0, .ref kO), (1, .int a1)]) hx hb dX2_letPass_42 rfl hl (by decide) rfl (fun ls hl => ?_)
      refine jn_lp (D := (dC, dI)) (cl := vwCl) (A := A) (H0 := s.heap) (nL := 4) (σ := Nat × Int32 × KW) 43 (fun x => [(0, .ref kO), (3, .int x.2.1)]) (fun x => (wK cI kO mS mA dS dA x.2.2)) (fun n x => x.1 < n ∧ ((x.1 = 0 ∧ x.2.1 ≤ 0) ∨ (0 < x.1 ∧ x.2.1 = nI x.1)) ∧ x.1 < 2 ^ 31 ∧ lpK x.1 x.2.2 = (lpK (((gKW_K_left u) + a1) / (12 : Int32)).toNatClampNeg (sKW_K_left u (((gKW_K_left u) + a1) - ((gKW_K_left u) + a1) / (12 : Int32) * (12 : Int32))))) (fun x h => ?_) (fun n ih x H locs ls hI hP hD hS hl => ?_) (fun hloop => ?_)
      · obtain ⟨jv, dd, vv⟩ := x
        try dsimp only at h
        obtain ⟨h1, _⟩ := h
        omega
      · obtain ⟨jv, dd, vv⟩ := x
        try dsimp only at hI
        obtain ⟨hn9, hd9, hj9, hv9⟩ := hI
        have hP : va_P (dC, dI) vwCl (wK cI kO mS mA dS dA vv) H := hP
        have hD : va_D A (wK cI kO mS mA dS dA vv) := hD
        have hl : lv_has ls 4 [(0, .ref kO), (3, .int dd)] := hl
        refine lv_iload_n hx hb dX2_letPass_43 rfl (lv_at hl 1 rfl) ?_
        refine lv_if_le (tgt := 66) hx hb dX2_letPass_44 (by decide) (fun c3 => ?_) (fun c3 => ?_)
        · skip
          obtain rfl : vv = (lpK (((gKW_K_left u) + a1) / (12 : Int32)).toNatClampNeg (sKW_K_left u (((gKW_K_left u) + a1) - ((gKW_K_left u) + a1) / (12 : Int32) * (12 : Int32)))) := by first | (rcases hd9 with ⟨q1, _⟩ | ⟨q1, q2⟩; (subst q1; exact hv9); exact absurd (show dd ≤ 0 from c3) (by rw [q2]; exact nI_nle q1 hj9)) | (rw [lpK_stop c3] at hv9; exact hv9)
          refine lv_aload_n hx hb dX2_letPass_66 rfl (lv_at hl 0 rfl) ?_
          refine va_get (D := (dC, dI)) (ci := 2) (v := .int (gKW_K_mov (lpK (((gKW_K_left u) + a1) / (12 : Int32)).toNatClampNeg (sKW_K_left u (((gKW_K_left u) + a1) - ((gKW_K_left u) + a1) / (12 : Int32) * (12 : Int32)))))) (C := RX2) (T := TX2) (N := 11) hx hb hts iX2_letPass_X2 hown hK hP 0 rfl rfl 8 (by decide) (hts _ qX2_letPass_2) (fun _ h9 => h9) rfl dX2_letPass_67 ?_
          refine lv_bipush (v := 64) hx hb dX2_letPass_70 (by decide) ?_
          refine lv_icmp_ge (tgt := 79) hx hb dX2_letPass_72 (by decide) (fun c4 => ?_) (fun c4 => ?_)
          · skip
            refine lv_aload_n hx hb dX2_letPass_79 rfl (lv_at hl 0 rfl) ?_
            obtain ⟨hPc, hDc, hFc⟩ := xK_K hP hD hS hA
            have hKc := hK.sub (tys' := [(cI, .int)]) [0] rfl
            refine va_calli (va_runV (As := []) (rest := []) ⟨hx, hb, hml, hown, hts⟩ (k_X2_finish l dC dI cI kO mS mA dS dA H.size (lpK (((gKW_K_left u) + a1) / (12 : Int32)).toNatClampNeg (sKW_K_left u (((gKW_K_left u) + a1) - ((gKW_K_left u) + a1) / (12 : Int32) * (12 : Int32))))) (cwV 0 hts gX2_letPass_X2_finish rfl rfl rfl (by decide +kernel) ⟨Nat.le_of_ble_eq_true rfl, Nat.le_of_ble_eq_true rfl⟩) ⟨fun a U g mk q => by obtain ⟨q0, q1, qP, qK, qD⟩ := q; exact ⟨q0, q1, qP, va_K.moved (u := U) (U := U.calling g mk a) (Vm.Alike.refl U.vm) qK, qD⟩, va_recv hKc hPc (ci := 2) (q0 := 0) rfl rfl, fun U hU hW => ⟨rfl, by rw [hU], by rw [hU]; exact hPc, va_K.moved hW.alike hKc, hDc.weaken (fun _ _ _ _ => trivial)⟩⟩ rfl rfl hl.1 rfl (lv_room (Nat.le_of_ble_eq_true rfl)) dX2_letPass_80 ⟨Nat.le_of_ble_eq_true rfl, Nat.le_of_ble_eq_true rfl⟩) hS (fun q _ h => hFc q h) hFc (fun r9 u9 t H1 locs ht hvm hw hB hz1 hk1 hS => ?_)
            obtain ⟨rfl, rfl⟩ := hw
            obtain ⟨hP1, hK1, hD1⟩ := hB
            rw [ht] at hP1
            obtain ⟨hP, hD⟩ := jK_K hP hD hk1 hFc hP1 hD1
            clear hPc hDc hKc hFc hz1 hk1 hP1 hK1 hD1 ht hvm
            generalize H1 = H at hP hS ⊢
            exact W.iret (v := (f_X2_finish (lpK (((gKW_K_left u) + a1) / (12 : Int32)).toNatClampNeg (sKW_K_left u (((gKW_K_left u) + a1) - ((gKW_K_left u) + a1) / (12 : Int32) * (12 : Int32))))).1) hx hb hr (fun t ht hW => ⟨⟨(f_X2_finish (lpK (((gKW_K_left u) + a1) / (12 : Int32)).toNatClampNeg (sKW_K_left u (((gKW_K_left u) + a1) - ((gKW_K_left u) + a1) / (12 : Int32) * (12 : Int32))))).1, (f_X2_finish (lpK (((gKW_K_left u) + a1) / (12 : Int32)).toNatClampNeg (sKW_K_left u (((gKW_K_left u) + a1) - ((gKW_K_left u) + a1) / (12 : Int32) * (12 : Int32))))).2, rfl, ⟨(by first | simp only [f_X2_letPass, if_neg c1, if_pos c2, if_pos c3, if_pos c4]), (by first | simp only [f_X2_letPass, if_neg c1, if_pos c2, if_pos c3, if_pos c4])⟩, by rw [ht]; exact hP, va_K.moved hW.alike hK, hD⟩, hS.F ht⟩) hS.2.2 dX2_letPass_83
          · skip
            refine lv_iconst (v := (-1)) hx hb dX2_letPass_75 (by decide) ?_
            refine lv_goto (tgt := 83) hx hb dX2_letPass_76 (by decide) ?_
            exact W.iret (v := (-1)) hx hb hr (fun t ht hW => ⟨⟨(-1), (lpK (((gKW_K_left u) + a1) / (12 : Int32)).toNatClampNeg (sKW_K_left u (((gKW_K_left u) + a1) - ((gKW_K_left u) + a1) / (12 : Int32) * (12 : Int32)))), rfl, ⟨(by first | exact absurd c3 c4 | simp only [f_X2_letPass, if_neg c1, if_pos c2, if_pos c3, if_neg c4]), (by first | exact absurd c3 c4 | simp only [f_X2_letPass, if_neg c1, if_pos c2, if_pos c3, if_neg c4])⟩, by rw [ht]; exact hP, va_K.moved hW.alike hK, hD⟩, hS.F ht⟩) hS.2.2 dX2_letPass_83
        · skip
          refine lv_aload_n hx hb dX2_letPass_47 rfl (lv_at hl 0 rfl) ?_
          refine va_get (D := (dC, dI)) (ci := 2) (v := .int (gKW_K_mov vv)) (C := RX2) (T := TX2) (N := 11) hx hb hts iX2_letPass_X2 hown hK hP 0 rfl rfl 8 (by decide) (hts _ qX2_letPass_2) (fun _ h9 => h9) rfl dX2_letPass_48 ?_
          refine lv_bipush (v := 64) hx hb dX2_letPass_51 (by decide) ?_
          refine lv_icmp_ge (tgt := 66) hx hb dX2_letPass_53 (by decide) (fun c5 => ?_) (fun c5 => ?_)
          · skip
            obtain rfl : vv = (lpK (((gKW_K_left u) + a1) / (12 : Int32)).toNatClampNeg (sKW_K_left u (((gKW_K_left u) + a1) - ((gKW_K_left u) + a1) / (12 : Int32) * (12 : Int32)))) := by first | (rcases hd9 with ⟨q1, _⟩ | ⟨q1, q2⟩; (subst q1; exact hv9); exact absurd (show dd ≤ 0 from c5) (by rw [q2]; exact nI_nle q1 hj9)) | (rw [lpK_stop c5] at hv9; exact hv9)
            refine lv_aload_n hx hb dX2_letPass_66 rfl (lv_at hl 0 rfl) ?_
            refine va_get (D := (dC, dI)) (ci := 2) (v := .int (gKW_K_mov (lpK (((gKW_K_left u) + a1) / (12 : Int32)).toNatClampNeg (sKW_K_left u (((gKW_K_left u) + a1) - ((gKW_K_left u) + a1) / (12 : Int32) * (12 : Int32)))))) (C := RX2) (T := TX2) (N := 11) hx hb hts iX2_letPass_X2 hown hK hP 0 rfl rfl 8 (by decide) (hts _ qX2_letPass_2) (fun _ h9 => h9) rfl dX2_letPass_67 ?_
            refine lv_bipush (v := 64) hx hb dX2_letPass_70 (by decide) ?_
            refine lv_icmp_ge (tgt := 79) hx hb dX2_letPass_72 (by decide) (fun c6 => ?_) (fun c6 => ?_)
            · skip
              refine lv_aload_n hx hb dX2_letPass_79 rfl (lv_at hl 0 rfl) ?_
              obtain ⟨hPc, hDc, hFc⟩ := xK_K hP hD hS hA
              have hKc := hK.sub (tys' := [(cI, .int)]) [0] rfl
              refine va_calli (va_runV (As := []) (rest := []) ⟨hx, hb, hml, hown, hts⟩ (k_X2_finish l dC dI cI kO mS mA dS dA H.size (lpK (((gKW_K_left u) + a1) / (12 : Int32)).toNatClampNeg (sKW_K_left u (((gKW_K_left u) + a1) - ((gKW_K_left u) + a1) / (12 : Int32) * (12 : Int32))))) (cwV 0 hts gX2_letPass_X2_finish rfl rfl rfl (by decide +kernel) ⟨Nat.le_of_ble_eq_true rfl, Nat.le_of_ble_eq_true rfl⟩) ⟨fun a U g mk q => by obtain ⟨q0, q1, qP, qK, qD⟩ := q; exact ⟨q0, q1, qP, va_K.moved (u := U) (U := U.calling g mk a) (Vm.Alike.refl U.vm) qK, qD⟩, va_recv hKc hPc (ci := 2) (q0 := 0) rfl rfl, fun U hU hW => ⟨rfl, by rw [hU], by rw [hU]; exact hPc, va_K.moved hW.alike hKc, hDc.weaken (fun _ _ _ _ => trivial)⟩⟩ rfl rfl hl.1 rfl (lv_room (Nat.le_of_ble_eq_true rfl)) dX2_letPass_80 ⟨Nat.le_of_ble_eq_true rfl, Nat.le_of_ble_eq_true rfl⟩) hS (fun q _ h => hFc q h) hFc (fun r9 u9 t H1 locs ht hvm hw hB hz1 hk1 hS => ?_)
              obtain ⟨rfl, rfl⟩ := hw
              obtain ⟨hP1, hK1, hD1⟩ := hB
              rw [ht] at hP1
              obtain ⟨hP, hD⟩ := jK_K hP hD hk1 hFc hP1 hD1
              clear hPc hDc hKc hFc hz1 hk1 hP1 hK1 hD1 ht hvm
              generalize H1 = H at hP hS ⊢
              exact W.iret (v := (f_X2_finish (lpK (((gKW_K_left u) + a1) / (12 : Int32)).toNatClampNeg (sKW_K_left u (((gKW_K_left u) + a1) - ((gKW_K_left u) + a1) / (12 : Int32) * (12 : Int32))))).1) hx hb hr (fun t ht hW => ⟨⟨(f_X2_finish (lpK (((gKW_K_left u) + a1) / (12 : Int32)).toNatClampNeg (sKW_K_left u (((gKW_K_left u) + a1) - ((gKW_K_left u) + a1) / (12 : Int32) * (12 : Int32))))).1, (f_X2_finish (lpK (((gKW_K_left u) + a1) / (12 : Int32)).toNatClampNeg (sKW_K_left u (((gKW_K_left u) + a1) - ((gKW_K_left u) + a1) / (12 : Int32) * (12 : Int32))))).2, rfl, ⟨(by first | simp only [f_X2_letPass, if_neg c1, if_pos c2, if_neg c3, if_pos c5, if_pos c6]), (by first | simp only [f_X2_letPass, if_neg c1, if_pos c2, if_neg c3, if_pos c5, if_pos c6])⟩, by rw [ht]; exact hP, va_K.moved hW.alike hK, hD⟩, hS.F ht⟩) hS.2.2 dX2_letPass_83
            · skip
              refine lv_iconst (v := (-1)) hx hb dX2_letPass_75 (by decide) ?_
              refine lv_goto (tgt := 83) hx hb dX2_letPass_76 (by decide) ?_
              exact W.iret (v := (-1)) hx hb hr (fun t ht hW => ⟨⟨(-1), (lpK (((gKW_K_left u) + a1) / (12 : Int32)).toNatClampNeg (sKW_K_left u (((gKW_K_left u) + a1) - ((gKW_K_left u) + a1) / (12 : Int32) * (12 : Int32)))), rfl, ⟨(by first | exact absurd c5 c6 | simp only [f_X2_letPass, if_neg c1, if_pos c2, if_neg c3, if_pos c5, if_neg c6]), (by first | exact absurd c5 c6 | simp only [f_X2_letPass, if_neg c1, if_pos c2, if_neg c3, if_pos c5, if_neg c6])⟩, by rw [ht]; exact hP, va_K.moved hW.alike hK, hD⟩, hS.F ht⟩) hS.2.2 dX2_letPass_83
          · skip
            refine lv_aload_n hx hb dX2_letPass_56 rfl (lv_at hl 0 rfl) ?_
            obtain ⟨hPc, hDc, hFc⟩ := xK_K hP hD hS hA
            have hKc := hK.sub (tys' := [(cI, .int)]) [0] rfl
            refine va_callv (va_runV (As := []) (rest := []) ⟨hx, hb, hml, hown, hts⟩ (k_X2_moveByte l dC dI cI kO mS mA dS dA H.size vv) (cwV 0 hts gX2_letPass_X2_moveByte rfl rfl rfl (by decide +kernel) ⟨Nat.le_of_ble_eq_true rfl, Nat.le_of_ble_eq_true rfl⟩) ⟨fun a U g mk q => by obtain ⟨q0, q1, qP, qK, qD⟩ := q; exact ⟨q0, q1, qP, va_K.moved (u := U) (U := U.calling g mk a) (Vm.Alike.refl U.vm) qK, qD⟩, va_recv hKc hPc (ci := 2) (q0 := 0) rfl rfl, fun U hU hW => ⟨rfl, by rw [hU], by rw [hU]; exact hPc, va_K.moved hW.alike hKc, hDc.weaken (fun _ _ _ _ => trivial)⟩⟩ rfl rfl hl.1 rfl (lv_room (Nat.le_of_ble_eq_true rfl)) dX2_letPass_57 ⟨Nat.le_of_ble_eq_true rfl, Nat.le_of_ble_eq_true rfl⟩) hS (fun q _ h => hFc q h) hFc (fun u9 t H1 locs ht hvm hw hB hz1 hk1 hS => ?_)
            subst hw
            obtain ⟨hP1, hK1, hD1⟩ := hB
            rw [ht] at hP1
            obtain ⟨hP, hD⟩ := jK_K hP hD hk1 hFc hP1 hD1
            clear hPc hDc hKc hFc hz1 hk1 hP1 hK1 hD1 ht hvm
            generalize H1 = H at hP hS ⊢
            refine lv_iinc (v := (dd + ((-1) : Int32))) (lv' := [(3, .int (dd + ((-1) : Int32))), (0, .ref kO)]) hx hb dX2_letPass_60 hl (k := 1) rfl rfl (by decide) rfl (fun ls hl => ?_)
            refine lv_goto (tgt := 43) hx hb dX2_letPass_63 (by decide) ?_
            exact ih ((jv - 1), (dd + ((-1) : Int32)), (f_X2_moveByte vv)) _ _ _ (lp_back hn9 hd9 hj9 hv9 c3 c5) hP hD hS (lv_sub hl [1, 0] rfl)
      · exact hloop _ (_, (((gKW_K_left u) + a1) / (12 : Int32)), (sKW_K_left u (((gKW_K_left u) + a1) - ((gKW_K_left u) + a1) / (12 : Int32) * (12 : Int32)))) _ _ _ (⟨Nat.lt_succ_self _, due_ok _, clamp_lt _, rfl⟩) hP hD hS (lv_sub hl [2, 0] rfl)
    · skip
      refine lv_aload_n hx hb dX2_letPass_16 rfl (lv_at hl 0 rfl) ?_
      refine lv_iconst (v := 0) hx hb dX2_letPass_17 (by decide) ?_
      refine va_put (D := (dC, dI)) (ci := 2) (v := .int (bI false)) (ty := .boolean) (C := RX2) (T := TX2) (N := 11) hx hb hts iX2_letPass_X2 tyX2 tyX2_ok nmX2 hown hK hP hD hS 0 rfl rfl 10 (by decide) (hts _ qX2_letPass_0) (fun _ h9 => h9) rfl (by decide +kernel) (bI_nar false) (bI_fit false) (Nat.le_of_ble_eq_true rfl) dX2_letPass_18 (fun H locs hP hD hS => ?_)
      obtain ⟨hP, hD⟩ := pK_K_just hP hD
      refine lv_iconst (v := (-1)) hx hb dX2_letPass_21 (by decide) ?_
      exact W.iret (v := (-1)) hx hb hr (fun t ht hW => ⟨⟨(-1), (sKW_K_just u false), rfl, ⟨(by first | simp only [f_X2_letPass, if_neg c1, if_neg c2]), (by first | simp only [f_X2_letPass, if_neg c1, if_neg c2])⟩, by rw [ht]; exact hP, va_K.moved hW.alike hK, hD⟩, hS.F ht⟩) hS.2.2 dX2_letPass_22
  · skip
    refine lv_iconst (v := (-1)) hx hb dX2_letPass_7 (by decide) ?_
    exact W.iret (v := (-1)) hx hb hr (fun t ht hW => ⟨⟨(-1), u, rfl, ⟨(by first | simp only [f_X2_letPass, if_pos c1]), (by first | simp only [f_X2_letPass, if_pos c1])⟩, by rw [ht]; exact hP, va_K.moved hW.alike hK, hD⟩, hS.F ht⟩) hS.2.2 dX2_letPass_8
