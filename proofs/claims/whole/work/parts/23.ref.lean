theorem ix_mv {x y : Int32} (h : ∃ i j : Nat, i < 64 ∧ j < 64 ∧ x = nI (64 * i) ∧ y = nI j) : vp_in (x + y) 4096 := by
  obtain ⟨i, j, hi, hj, rfl, rfl⟩ := h
  rw [nI_add]
  exact vp_in_nI (by omega) (by decide)
/-- while the controller is busy, its sector lies on the disk and is not at its end -/
def mv_ok (u : MW) : Prop := ((gMW_st u) &&& 1) = 1 → ∃ i j : Nat, i < 64 ∧ j < 64 ∧ gMW_frm u = nI (64 * i) ∧ gMW_mov u = nI j

def f_X7_sum (u : MW) : Int32 × MW := (wsum (gMW_m (sMW_thr u 0)) 4096, sMW_thr u 0)
theorem qX7_sum_0 : Cond.fieldLink RX7 29 "DiskMachineModel" "thrown" "I" ∈ wsX7_sum := by decide +kernel
theorem qX7_sum_1 : Cond.fieldLink RX7 7 "DiskMachineModel" "memory" "[I" ∈ wsX7_sum := by decide +kernel
theorem iX7_sum_X7 : ∀ w ∈ wsX70, w ∈ wsX7_sum := by decide +kernel
set_option maxHeartbeats 4000000 in
set_option maxRecDepth 100000 in
theorem k_X7_sum (l : Launch) (dC : Nat → ClassId) (dI : Nat → Nat → Nat) (cI : ClassId) (mO memA dskA rgA inA outA : Nat) (sz : Nat) (u : MW) : Met l yX7_sum wsX7_sum ({ frames := 0, cells := 0, slots := 0, locals := 0 }) (va_Pc [.ref mO] (wB dC dI [(cI, .int)] sz (wM cI mO memA dskA rgA inA outA u))) (va_Qi (fun (r : Int32) (u' : MW) => r = (f_X7_sum u).1 ∧ u' = (f_X7_sum u).2) (fun u' => wE dC dI [(cI, .int)] (va_A (wM cI mO memA dskA rgA inA outA u) sz) (wM cI mO memA dskA rgA inA outA u')) (va_A (wM cI mO memA dskA rgA inA outA u) sz)) 0 0 (va_A (wM cI mO memA dskA rgA inA outA u) sz) := by
  refine Met.ofW (cc := cX7_sum) (maxL := 3) (ret := (some .int)) (by decide) rfl ?_
  intro p e s m args below meth c s₁ B hml hv
  obtain ⟨rfl, hsz, hP, hK, hD0⟩ := hv
  have hx := B.exec
  have hb := B.bytes
  have hr := B.returns
  have hts := atoms_spec (ws := wsX7_sum) B.pre
  have hown : s.vm.findClass RX7 = some m.cls := findClass_of_methodNamed B.named
  have hlocks := B.notSynchronized
  subst hsz
  have hD := hD0.self (sz := s.heap.size)
  generalize hAe : va_A (wM cI mO memA dskA rgA inA outA u) s.heap.size = A at hD ⊢
  have hA : ∀ q : Nat, s.heap.size ≤ q → A q := fun q h => by rw [← hAe]; exact Or.inr h
  have hS : va_S A s.heap s.heap [] := va_S.rf
  have hP : va_P (dC, dI) vwCl (wM cI mO memA dskA rgA inA outA u) s.heap := hP
  clear hAe hD0
  have hl := lv_entry ([.ref mO]) (n := 3) (Nat.le_of_ble_eq_true rfl)
  rw [lg_entry_eq]
  generalize (lg_sl ([.ref mO]) ++ List.replicate (3 - (lg_sl ([.ref mO])).length) Slot.unset).toArray = ls at hl ⊢
  have hl : lv_has ls 3 [(0, .ref mO)] := hl
  refine jn_H hP hS (fun H locs hP hS => ?_)
  refine lv_aload_n hx hb dX7_sum_0 rfl (lv_at hl 0 rfl) ?_
  refine lv_iconst (v := 0) hx hb dX7_sum_1 (by decide) ?_
  refine va_put (D := (dC, dI)) (ci := 7) (v := .int 0) (ty := .int) (C := RX7) (T := TX7) (N := 30) hx hb hts iX7_sum_X7 tyX7 tyX7_ok nmX7 hown hK hP hD hS 0 rfl rfl 0 (by decide) (hts _ qX7_sum_0) (fun _ h9 => h9) rfl (by decide +kernel) rfl rfl (Nat.le_of_ble_eq_true rfl) dX7_sum_2 (fun H locs hP hD hS => ?_)
  obtain ⟨hP, hD⟩ := pM_thr hP hD
  refine lv_iconst (v := 0) hx hb dX7_sum_5 (by decide) ?_
  refine lv_istore_n (lv' := [(1, .int 0), (0, .ref mO)]) hx hb dX7_sum_6 rfl hl (by decide) rfl (fun ls hl => ?_)
  refine lv_iconst (v := 0) hx hb dX7_sum_7 (by decide) ?_
  refine lv_istore_n (lv' := [(2, .int 0), (1, .int 0), (0, .ref mO)]) hx hb dX7_sum_8 rfl hl (by decide) rfl (fun ls hl => ?_)
  refine jn_lp (D := (dC, dI)) (cl := vwCl) (A := A) (H0 := s.heap) (nL := 3) (σ := Nat × Int32 × Int32) 9 (fun x => [(0, .ref mO), (1, .int x.2.2), (2, .int x.2.1)]) (fun x => (wM cI mO memA dskA rgA inA outA (sMW_thr u 0))) (fun n x => x.1 + n = 4097 ∧ x.1 ≤ 4096 ∧ x.2.1 = nI x.1 ∧ x.2.2 = wsum (gMW_m (sMW_thr u 0)) x.1) (fun x h => ?_) (fun n ih x H locs ls hI hP hD hS hl => ?_) (fun hloop => ?_)
  · obtain ⟨j, i, tt⟩ := x
    try dsimp only at h
    obtain ⟨h1, h2, _⟩ := h
    omega
  · obtain ⟨j, i, tt⟩ := x
    try dsimp only at hI
    obtain ⟨hn, hj, hi, ht9⟩ := hI
    have hP : va_P (dC, dI) vwCl (wM cI mO memA dskA rgA inA outA (sMW_thr u 0)) H := hP
    have hD : va_D A (wM cI mO memA dskA rgA inA outA (sMW_thr u 0)) := hD
    have hl : lv_has ls 3 [(0, .ref mO), (1, .int tt), (2, .int i)] := hl
    refine lv_iload_n hx hb dX7_sum_9 rfl (lv_at hl 2 rfl) ?_
    refine lv_sipush (v := 4096) hx hb dX7_sum_10 (by decide) ?_
    refine lv_icmp_ge (tgt := 35) hx hb dX7_sum_13 (by decide) (fun c1 => ?_) (fun c1 => ?_)
    · skip
      obtain rfl : j = 4096 := Nat.le_antisymm hj (Nat.le_of_not_lt (fun z => absurd c1 (by rw [hi]; exact nI_ge z (by decide))))
      refine lv_iload_n hx hb dX7_sum_35 rfl (lv_at hl 1 rfl) ?_
      exact W.iret (v := tt) hx hb hr (fun t ht hW => ⟨⟨tt, (sMW_thr u 0), rfl, ⟨(by first | exact ht9 | rfl), (by first | exact ht9 | rfl)⟩, by rw [ht]; exact hP, va_K.moved hW.alike hK, hD⟩, hS.F ht⟩) hS.2.2 dX7_sum_36
    · skip
      refine lv_iload_n hx hb dX7_sum_16 rfl (lv_at hl 1 rfl) ?_
      refine lv_aload_n hx hb dX7_sum_17 rfl (lv_at hl 0 rfl) ?_
      refine va_get (D := (dC, dI)) (ci := 7) (v := .ref memA) (C := RX7) (T := TX7) (N := 30) hx hb hts iX7_sum_X7 hown hK hP 0 rfl rfl 1 (by decide) (hts _ qX7_sum_1) (fun _ h9 => h9) rfl dX7_sum_18 ?_
      refine lv_iload_n hx hb dX7_sum_21 rfl (lv_at hl 2 rfl) ?_
      refine va_iald (f := (gMW_m (sMW_thr u 0))) hx hb hK hP 1 0 rfl rfl (by rw [hi]; exact vp_in_nI (by have q := c1; rw [hi] at q; exact Nat.lt_of_not_le (fun z => q (nI_le (a := 4096) z (by omega)))) (by decide)) dX7_sum_22 ?_
      refine lv_iload_n hx hb dX7_sum_23 rfl (lv_at hl 2 rfl) ?_
      refine lv_iconst (v := 1) hx hb dX7_sum_24 (by decide) ?_
      refine lv_iadd hx hb dX7_sum_25 ?_
      refine lv_imul hx hb dX7_sum_26 ?_
      refine lv_iadd hx hb dX7_sum_27 ?_
      refine lv_istore_n (lv' := [(1, .int (tt + (((gMW_m (sMW_thr u 0)) (i : Int32).toNatClampNeg) * (i + (1 : Int32))))), (0, .ref mO), (2, .int i)]) hx hb dX7_sum_28 rfl hl (by decide) rfl (fun ls hl => ?_)
      refine lv_iinc (v := (i + (1 : Int32))) (lv' := [(2, .int (i + (1 : Int32))), (1, .int (tt + (((gMW_m (sMW_thr u 0)) (i : Int32).toNatClampNeg) * (i + (1 : Int32))))), (0, .ref mO)]) hx hb dX7_sum_29 hl (k := 2) rfl rfl (by decide) rfl (fun ls hl => ?_)
      refine lv_goto (tgt := 9) hx hb dX7_sum_32 (by decide) ?_
      exact ih ((j + 1), (i + (1 : Int32)), (tt + (((gMW_m (sMW_thr u 0)) (i : Int32).toNatClampNeg) * (i + (1 : Int32))))) _ _ _ (⟨by omega, Nat.lt_of_not_le (fun z => c1 (by rw [hi]; exact nI_le (a := 4096) z (by omega))), by rw [hi]; exact nI_1 j, by subst hi; rw [ht9, nI_clamp (show j < 2 ^ 31 by omega)]; rfl⟩) hP hD hS (lv_sub hl [2, 1, 0] rfl)
  · exact hloop 4097 (0, 0, 0) _ _ _ (⟨rfl, Nat.zero_le _, rfl, rfl⟩) hP hD hS (lv_sub hl [2, 1, 0] rfl)

def f_X7_logic (u : MW) (a1 : Int32) : MW := (sMW_p (sMW_z (sMW_s u (if a1 ≤ (127 : Int32) then false else true : Bool)) (if a1 = 0 then true else false : Bool)) (if ((ones a1 8) - (ones a1 8) / 2 * 2) = 0 then true else false : Bool))
theorem qX7_logic_0 : Cond.fieldLink RX7 67 "DiskMachineModel" "sign" "Z" ∈ wsX7_logic := by decide +kernel
theorem qX7_logic_1 : Cond.fieldLink RX7 71 "DiskMachineModel" "zero" "Z" ∈ wsX7_logic := by decide +kernel
theorem qX7_logic_2 : Cond.fieldLink RX7 77 "DiskMachineModel" "parity" "Z" ∈ wsX7_logic := by decide +kernel
theorem iX7_logic_X7 : ∀ w ∈ wsX70, w ∈ wsX7_logic := by decide +kernel
set_option maxHeartbeats 4000000 in
set_option maxRecDepth 100000 in
theorem k_X7_logic (l : Launch) (dC : Nat → ClassId) (dI : Nat → Nat → Nat) (cI : ClassId) (mO memA dskA rgA inA outA : Nat) (sz : Nat) (u : MW) (a1 : Int32) : Met l yX7_logic wsX7_logic ({ frames := 0, cells := 0, slots := 0, locals := 0 }) (va_Pc [.ref mO, .int a1] (wB dC dI [(cI, .int)] sz (wM cI mO memA dskA rgA inA outA u))) (va_Qv (fun u' : MW => u' = (f_X7_logic u a1)) (fun u' => wE dC dI [(cI, .int)] (va_A (wM cI mO memA dskA rgA inA outA u) sz) (wM cI mO memA dskA rgA inA outA u')) (va_A (wM cI mO memA dskA rgA inA outA u) sz)) 0 0 (va_A (wM cI mO memA dskA rgA inA outA u) sz) := by
  refine Met.ofW (cc := cX7_logic) (maxL := 4) (ret := none) (by decide) rfl ?_
  intro p e s m args below meth c s₁ B hml hv
  obtain ⟨rfl, hsz, hP, hK, hD0⟩ := hv
  have hx := B.exec
  have hb := B.bytes
  have hr := B.returns
  have hts := atoms_spec (ws := wsX7_logic) B.pre
  have hown : s.vm.findClass RX7 = some m.cls := findClass_of_methodNamed B.named
  have hlocks := B.notSynchronized
  subst hsz
  have hD := hD0.self (sz := s.heap.size)
  generalize hAe : va_A (wM cI mO memA dskA rgA inA outA u) s.heap.size = A at hD ⊢
  have hA : ∀ q : Nat, s.heap.size ≤ q → A q := fun q h => by rw [← hAe]; exact Or.inr h
  have hS : va_S A s.heap s.heap [] := va_S.rf
  have hP : va_P (dC, dI) vwCl (wM cI mO memA dskA rgA inA outA u) s.heap := hP
  clear hAe hD0
  have hl := lv_entry ([.ref mO, .int a1]) (n := 4) (Nat.le_of_ble_eq_true rfl)
  rw [lg_entry_eq]
  generalize (lg_sl ([.ref mO, .int a1]) ++ List.replicate (4 - (lg_sl ([.ref mO, .int a1])).length) Slot.unset).toArray = ls at hl ⊢
  have hl : lv_has ls 4 [(0, .ref mO), (1, .int a1)] := hl
  refine jn_H hP hS (fun H locs hP hS => ?_)
  refine lv_iconst (v := 0) hx hb dX7_logic_0 (by decide) ?_
  refine lv_istore_n (lv' := [(2, .int 0), (0, .ref mO), (1, .int a1)]) hx hb dX7_logic_1 rfl hl (by decide) rfl (fun ls hl => ?_)
  refine lv_iconst (v := 0) hx hb dX7_logic_2 (by decide) ?_
  refine lv_istore_n (lv' := [(3, .int 0), (2, .int 0), (0, .ref mO), (1, .int a1)]) hx hb dX7_logic_3 rfl hl (by decide) rfl (fun ls hl => ?_)
  refine jn_lp (D := (dC, dI)) (cl := vwCl) (A := A) (H0 := s.heap) (nL := 4) (σ := Nat × Int32 × Int32) 4 (fun x => [(0, .ref mO), (1, .int a1), (2, .int x.2.2), (3, .int x.2.1)]) (fun x => (wM cI mO memA dskA rgA inA outA u)) (fun n x => x.1 + n = 9 ∧ x.1 ≤ 8 ∧ x.2.1 = nI x.1 ∧ x.2.2 = ones a1 x.1) (fun x h => ?_) (fun n ih x H locs ls hI hP hD hS hl => ?_) (fun hloop => ?_)
  · obtain ⟨j, i, tt⟩ := x
    try dsimp only at h
    obtain ⟨h1, h2, _⟩ := h
    omega
  · obtain ⟨j, i, tt⟩ := x
    try dsimp only at hI
    obtain ⟨hn, hj, hi, ht9⟩ := hI
    have hP : va_P (dC, dI) vwCl (wM cI mO memA dskA rgA inA outA u) H := hP
    have hD : va_D A (wM cI mO memA dskA rgA inA outA u) := hD
    have hl : lv_has ls 4 [(0, .ref mO), (1, .int a1), (2, .int tt), (3, .int i)] := hl
    refine lv_iload_n hx hb dX7_logic_4 rfl (lv_at hl 3 rfl) ?_
    refine lv_bipush (v := 8) hx hb dX7_logic_5 (by decide) ?_
    refine lv_icmp_ge (tgt := 24) hx hb dX7_logic_7 (by decide) (fun c1 => ?_) (fun c1 => ?_)
    · skip
      obtain rfl : j = 8 := Nat.le_antisymm hj (Nat.le_of_not_lt (fun z => absurd c1 (by rw [hi]; exact nI_ge z (by decide))))
      subst ht9
      refine lv_aload_n hx hb dX7_logic_24 rfl (lv_at hl 0 rfl) ?_
      refine lv_iload_n hx hb dX7_logic_25 rfl (lv_at hl 1 rfl) ?_
      refine lv_bipush (v := 127) hx hb dX7_logic_26 (by decide) ?_
      refine jn_b (D := (dC, dI)) (cl := vwCl) (ws := (wM cI mO memA dskA rgA inA outA u)) (A := A) (H0 := s.heap) (nL := 4) 36 (if a1 ≤ (127 : Int32) then false else true : Bool) [(0, .ref mO), (1, .int a1), (2, .int (ones a1 8)), (3, .int i)] [.ref mO] (fun H locs ls hP hS hl => ?_) (fun hJ2 => ?_)
      · skip
        refine va_put (D := (dC, dI)) (ci := 7) (v := .int (bI (if a1 ≤ (127 : Int32) then false else true : Bool))) (ty := .boolean) (C := RX7) (T := TX7) (N := 30) hx hb hts iX7_logic_X7 tyX7 tyX7_ok nmX7 hown hK hP hD hS 0 rfl rfl 4 (by decide) (hts _ qX7_logic_0) (fun _ h9 => h9) rfl (by decide +kernel) (bI_nar (if a1 ≤ (127 : Int32) then false else true : Bool)) (bI_fit (if a1 ≤ (127 : Int32) then false else true : Bool)) (Nat.le_of_ble_eq_true rfl) dX7_logic_36 (fun H locs hP hD hS => ?_)
        obtain ⟨hP, hD⟩ := pM_s hP hD
        refine lv_aload_n hx hb dX7_logic_39 rfl (lv_at hl 0 rfl) ?_
        refine lv_iload_n hx hb dX7_logic_40 rfl (lv_at hl 1 rfl) ?_
        refine jn_b (D := (dC, dI)) (cl := vwCl) (ws := (wM cI mO memA dskA rgA inA outA (sMW_s u (if a1 ≤ (127 : Int32) then false else true : Bool)))) (A := A) (H0 := s.heap) (nL := 4) 49 (if a1 = (0 : Int32) then true else false : Bool) [(0, .ref mO), (1, .int a1), (2, .int (ones a1 8)), (3, .int i)] [.ref mO] (fun H locs ls hP hS hl => ?_) (fun hJ3 => ?_)
        · skip
          refine va_put (D := (dC, dI)) (ci := 7) (v := .int (bI (if a1 = (0 : Int32) then true else false : Bool))) (ty := .boolean) (C := RX7) (T := TX7) (N := 30) hx hb hts iX7_logic_X7 tyX7 tyX7_ok nmX7 hown hK hP hD hS 0 rfl rfl 5 (by decide) (hts _ qX7_logic_1) (fun _ h9 => h9) rfl (by decide +kernel) (bI_nar (if a1 = (0 : Int32) then true else false : Bool)) (bI_fit (if a1 = (0 : Int32) then true else false : Bool)) (Nat.le_of_ble_eq_true rfl) dX7_logic_49 (fun H locs hP hD hS => ?_)
          obtain ⟨hP, hD⟩ := pM_z hP hD
          refine lv_aload_n hx hb dX7_logic_52 rfl (lv_at hl 0 rfl) ?_
          refine lv_iload_n hx hb dX7_logic_53 rfl (lv_at hl 2 rfl) ?_
          refine lv_iconst (v := 2) hx hb dX7_logic_54 (by decide) ?_
          refine lv_irem hx hb dX7_logic_55 (by decide) ?_
          refine jn_b (D := (dC, dI)) (cl := vwCl) (ws := (wM cI mO memA dskA rgA inA outA (sMW_z (sMW_s u (if a1 ≤ (127 : Int32) then false else true : Bool)) (if a1 = (0 : Int32) then true else false : Bool)))) (A := A) (H0 := s.heap) (nL := 4) 64 (if ((ones a1 8) - (ones a1 8) / (2 : Int32) * (2 : Int32)) = (0 : Int32) then true else false : Bool) [(0, .ref mO), (1, .int a1), (2, .int (ones a1 8)), (3, .int i)] [.ref mO] (fun H locs ls hP hS hl => ?_) (fun hJ4 => ?_)
          · skip
            refine va_put (D := (dC, dI)) (ci := 7) (v := .int (bI (if ((ones a1 8) - (ones a1 8) / (2 : Int32) * (2 : Int32)) = (0 : Int32) then true else false : Bool))) (ty := .boolean) (C := RX7) (T := TX7) (N := 30) hx hb hts iX7_logic_X7 tyX7 tyX7_ok nmX7 hown hK hP hD hS 0 rfl rfl 7 (by decide) (hts _ qX7_logic_2) (fun _ h9 => h9) rfl (by decide +kernel) (bI_nar (if ((ones a1 8) - (ones a1 8) / (2 : Int32) * (2 : Int32)) = (0 : Int32) then true else false : Bool)) (bI_fit (if ((ones a1 8) - (ones a1 8) / (2 : Int32) * (2 : Int32)) = (0 : Int32) then true else false : Bool)) (Nat.le_of_ble_eq_true rfl) dX7_logic_64 (fun H locs hP hD hS => ?_)
            obtain ⟨hP, hD⟩ := pM_p hP hD
            exact W.vret hx hb hr (fun t ht hW => ⟨⟨(sMW_p (sMW_z (sMW_s u (if a1 ≤ (127 : Int32) then false else true : Bool)) (if a1 = (0 : Int32) then true else false : Bool)) (if ((ones a1 8) - (ones a1 8) / (2 : Int32) * (2 : Int32)) = (0 : Int32) then true else false : Bool)), rfl, rfl, by rw [ht]; exact hP, va_K.moved hW.alike hK, hD⟩, hS.F ht⟩) hS.2.2 dX7_logic_67
          · skip
            refine lv_if_ne (tgt := 63) hx hb dX7_logic_56 (by decide) (fun c5 => ?_) (fun c5 => ?_)
            · skip
              refine lv_iconst (v := 0) hx hb dX7_logic_63 (by decide) ?_
              exact hJ4 false _ _ _ (by simp only [if_neg c5]) hP hS (lv_sub hl [0, 1, 2, 3] rfl)
            · skip
              refine lv_iconst (v := 1) hx hb dX7_logic_59 (by decide) ?_
              refine lv_goto (tgt := 64) hx hb dX7_logic_60 (by decide) ?_
              exact hJ4 true _ _ _ (by simp only [if_pos c5]) hP hS (lv_sub hl [0, 1, 2, 3] rfl)
        · skip
          refine lv_if_ne (tgt := 48) hx hb dX7_logic_41 (by decide) (fun c6 => ?_) (fun c6 => ?_)
          · skip
            refine lv_iconst (v := 0) hx hb dX7_logic_48 (by decide) ?_
            exact hJ3 false _ _ _ (by simp only [if_neg c6]) hP hS (lv_sub hl [0, 1, 2, 3] rfl)
          · skip
            refine lv_iconst (v := 1) hx hb dX7_logic_44 (by decide) ?_
            refine lv_goto (tgt := 49) hx hb dX7_logic_45 (by decide) ?_
            exact hJ3 true _ _ _ (by simp only [if_pos c6]) hP hS (lv_sub hl [0, 1, 2, 3] rfl)
      · skip
        refine lv_icmp_le (tgt := 35) hx hb dX7_logic_28 (by decide) (fun c7 => ?_) (fun c7 => ?_)
        · skip
          refine lv_iconst (v := 0) hx hb dX7_logic_35 (by decide) ?_
          exact hJ2 false _ _ _ (by simp only [if_pos c7]) hP hS (lv_sub hl [0, 1, 2, 3] rfl)
        · skip
          refine lv_iconst (v := 1) hx hb dX7_logic_31 (by decide) ?_
          refine lv_goto (tgt := 36) hx hb dX7_logic_32 (by decide) ?_
          exact hJ2 true _ _ _ (by simp only [if_neg c7]) hP hS (lv_sub hl [0, 1, 2, 3] rfl)
    · skip
      refine lv_iload_n hx hb dX7_logic_10 rfl (lv_at hl 2 rfl) ?_
      refine lv_iload_n hx hb dX7_logic_11 rfl (lv_at hl 1 rfl) ?_
      refine lv_iload_n hx hb dX7_logic_12 rfl (lv_at hl 3 rfl) ?_
      refine lv_ishr hx hb dX7_logic_13 ?_
      refine lv_iconst (v := 1) hx hb dX7_logic_14 (by decide) ?_
      refine lv_iand hx hb dX7_logic_15 ?_
      refine lv_iadd hx hb dX7_logic_16 ?_
      refine lv_istore_n (lv' := [(2, .int (tt + ((a1 >>> (i &&& 31)) &&& (1 : Int32)))), (0, .ref mO), (1, .int a1), (3, .int i)]) hx hb dX7_logic_17 rfl hl (by decide) rfl (fun ls hl => ?_)
      refine lv_iinc (v := (i + (1 : Int32))) (lv' := [(3, .int (i + (1 : Int32))), (2, .int (tt + ((a1 >>> (i &&& 31)) &&& (1 : Int32)))), (0, .ref mO), (1, .int a1)]) hx hb dX7_logic_18 hl (k := 3) rfl rfl (by decide) rfl (fun ls hl => ?_)
      refine lv_goto (tgt := 4) hx hb dX7_logic_21 (by decide) ?_
      exact ih ((j + 1), (i + (1 : Int32)), (tt + ((a1 >>> (i &&& 31)) &&& (1 : Int32)))) _ _ _ (⟨by omega, Nat.lt_of_not_le (fun z => c1 (by rw [hi]; exact nI_le (a := 8) z (by omega))), by rw [hi]; exact nI_1 j, by subst hi; rw [ht9]; rfl⟩) hP hD hS (lv_sub hl [2, 3, 1, 0] rfl)
  · exact hloop 9 (0, 0, 0) _ _ _ (⟨rfl, Nat.zero_le _, rfl, rfl⟩) hP hD hS (lv_sub hl [2, 3, 1, 0] rfl)

def f_X7_moveOne (u : MW) : MW := 
  if (gMW_cmd u) = (1 : Int32) then 
    if (gMW_mov (sMW_mov (sMW_adr (f_X7_set u (gMW_adr u) ((gMW_d u) (((gMW_frm u) + (gMW_mov u)) : Int32).toNatClampNeg)) (((gMW_adr (f_X7_set u (gMW_adr u) ((gMW_d u) (((gMW_frm u) + (gMW_mov u)) : Int32).toNatClampNeg))) + (1 : Int32)) &&& (65535 : Int32))) ((gMW_mov (sMW_adr (f_X7_set u (gMW_adr u) ((gMW_d u) (((gMW_frm u) + (gMW_mov u)) : Int32).toNatClampNeg)) (((gMW_adr (f_X7_set u (gMW_adr u) ((gMW_d u) (((gMW_frm u) + (gMW_mov u)) : Int32).toNatClampNeg))) + (1 : Int32)) &&& (65535 : Int32)))) + (1 : Int32)))) = (64 : Int32) then 
      if ((gMW_call (sMW_st (sMW_mov (sMW_adr (f_X7_set u (gMW_adr u) ((gMW_d u) (((gMW_frm u) + (gMW_mov u)) : Int32).toNatClampNeg)) (((gMW_adr (f_X7_set u (gMW_adr u) ((gMW_d u) (((gMW_frm u) + (gMW_mov u)) : Int32).toNatClampNeg))) + (1 : Int32)) &&& (65535 : Int32))) ((gMW_mov (sMW_adr (f_X7_set u (gMW_adr u) ((gMW_d u) (((gMW_frm u) + (gMW_mov u)) : Int32).toNatClampNeg)) (((gMW_adr (f_X7_set u (gMW_adr u) ((gMW_d u) (((gMW_frm u) + (gMW_mov u)) : Int32).toNatClampNeg))) + (1 : Int32)) &&& (65535 : Int32)))) + (1 : Int32))) (((gMW_st (sMW_mov (sMW_adr (f_X7_set u (gMW_adr u) ((gMW_d u) (((gMW_frm u) + (gMW_mov u)) : Int32).toNatClampNeg)) (((gMW_adr (f_X7_set u (gMW_adr u) ((gMW_d u) (((gMW_frm u) + (gMW_mov u)) : Int32).toNatClampNeg))) + (1 : Int32)) &&& (65535 : Int32))) ((gMW_mov (sMW_adr (f_X7_set u (gMW_adr u) ((gMW_d u) (((gMW_frm u) + (gMW_mov u)) : Int32).toNatClampNeg)) (((gMW_adr (f_X7_set u (gMW_adr u) ((gMW_d u) (((gMW_frm u) + (gMW_mov u)) : Int32).toNatClampNeg))) + (1 : Int32)) &&& (65535 : Int32)))) + (1 : Int32)))) &&& (6 : Int32)) ||| (2 : Int32)))) &&& (8 : Int32)) = (0 : Int32) then (sMW_st (sMW_mov (sMW_adr (f_X7_set u (gMW_adr u) ((gMW_d u) (((gMW_frm u) + (gMW_mov u)) : Int32).toNatClampNeg)) (((gMW_adr (f_X7_set u (gMW_adr u) ((gMW_d u) (((gMW_frm u) + (gMW_mov u)) : Int32).toNatClampNeg))) + (1 : Int32)) &&& (65535 : Int32))) ((gMW_mov (sMW_adr (f_X7_set u (gMW_adr u) ((gMW_d u) (((gMW_frm u) + (gMW_mov u)) : Int32).toNatClampNeg)) (((gMW_adr (f_X7_set u (gMW_adr u) ((gMW_d u) (((gMW_frm u) + (gMW_mov u)) : Int32).toNatClampNeg))) + (1 : Int32)) &&& (65535 : Int32)))) + (1 : Int32))) (((gMW_st (sMW_mov (sMW_adr (f_X7_set u (gMW_adr u) ((gMW_d u) (((gMW_frm u) + (gMW_mov u)) : Int32).toNatClampNeg)) (((gMW_adr (f_X7_set u (gMW_adr u) ((gMW_d u) (((gMW_frm u) + (gMW_mov u)) : Int32).toNatClampNeg))) + (1 : Int32)) &&& (65535 : Int32))) ((gMW_mov (sMW_adr (f_X7_set u (gMW_adr u) ((gMW_d u) (((gMW_frm u) + (gMW_mov u)) : Int32).toNatClampNeg)) (((gMW_adr (f_X7_set u (gMW_adr u) ((gMW_d u) (((gMW_frm u) + (gMW_mov u)) : Int32).toNatClampNeg))) + (1 : Int32)) &&& (65535 : Int32)))) + (1 : Int32)))) &&& (6 : Int32)) ||| (2 : Int32)))
      else (sMW_want (sMW_st (sMW_mov (sMW_adr (f_X7_set u (gMW_adr u) ((gMW_d u) (((gMW_frm u) + (gMW_mov u)) : Int32).toNatClampNeg)) (((gMW_adr (f_X7_set u (gMW_adr u) ((gMW_d u) (((gMW_frm u) + (gMW_mov u)) : Int32).toNatClampNeg))) + (1 : Int32)) &&& (65535 : Int32))) ((gMW_mov (sMW_adr (f_X7_set u (gMW_adr u) ((gMW_d u) (((gMW_frm u) + (gMW_mov u)) : Int32).toNatClampNeg)) (((gMW_adr (f_X7_set u (gMW_adr u) ((gMW_d u) (((gMW_frm u) + (gMW_mov u)) : Int32).toNatClampNeg))) + (1 : Int32)) &&& (65535 : Int32)))) + (1 : Int32))) (((gMW_st (sMW_mov (sMW_adr (f_X7_set u (gMW_adr u) ((gMW_d u) (((gMW_frm u) + (gMW_mov u)) : Int32).toNatClampNeg)) (((gMW_adr (f_X7_set u (gMW_adr u) ((gMW_d u) (((gMW_frm u) + (gMW_mov u)) : Int32).toNatClampNeg))) + (1 : Int32)) &&& (65535 : Int32))) ((gMW_mov (sMW_adr (f_X7_set u (gMW_adr u) ((gMW_d u) (((gMW_frm u) + (gMW_mov u)) : Int32).toNatClampNeg)) (((gMW_adr (f_X7_set u (gMW_adr u) ((gMW_d u) (((gMW_frm u) + (gMW_mov u)) : Int32).toNatClampNeg))) + (1 : Int32)) &&& (65535 : Int32)))) + (1 : Int32)))) &&& (6 : Int32)) ||| (2 : Int32))) ((gMW_call (sMW_st (sMW_mov (sMW_adr (f_X7_set u (gMW_adr u) ((gMW_d u) (((gMW_frm u) + (gMW_mov u)) : Int32).toNatClampNeg)) (((gMW_adr (f_X7_set u (gMW_adr u) ((gMW_d u) (((gMW_frm u) + (gMW_mov u)) : Int32).toNatClampNeg))) + (1 : Int32)) &&& (65535 : Int32))) ((gMW_mov (sMW_adr (f_X7_set u (gMW_adr u) ((gMW_d u) (((gMW_frm u) + (gMW_mov u)) : Int32).toNatClampNeg)) (((gMW_adr (f_X7_set u (gMW_adr u) ((gMW_d u) (((gMW_frm u) + (gMW_mov u)) : Int32).toNatClampNeg))) + (1 : Int32)) &&& (65535 : Int32)))) + (1 : Int32))) (((gMW_st (sMW_mov (sMW_adr (f_X7_set u (gMW_adr u) ((gMW_d u) (((gMW_frm u) + (gMW_mov u)) : Int32).toNatClampNeg)) (((gMW_adr (f_X7_set u (gMW_adr u) ((gMW_d u) (((gMW_frm u) + (gMW_mov u)) : Int32).toNatClampNeg))) + (1 : Int32)) &&& (65535 : Int32))) ((gMW_mov (sMW_adr (f_X7_set u (gMW_adr u) ((gMW_d u) (((gMW_frm u) + (gMW_mov u)) : Int32).toNatClampNeg)) (((gMW_adr (f_X7_set u (gMW_adr u) ((gMW_d u) (((gMW_frm u) + (gMW_mov u)) : Int32).toNatClampNeg))) + (1 : Int32)) &&& (65535 : Int32)))) + (1 : Int32)))) &&& (6 : Int32)) ||| (2 : Int32)))) &&& (7 : Int32)))
    else (sMW_mov (sMW_adr (f_X7_set u (gMW_adr u) ((gMW_d u) (((gMW_frm u) + (gMW_mov u)) : Int32).toNatClampNeg)) (((gMW_adr (f_X7_set u (gMW_adr u) ((gMW_d u) (((gMW_frm u) + (gMW_mov u)) : Int32).toNatClampNeg))) + (1 : Int32)) &&& (65535 : Int32))) ((gMW_mov (sMW_adr (f_X7_set u (gMW_adr u) ((gMW_d u) (((gMW_frm u) + (gMW_mov u)) : Int32).toNatClampNeg)) (((gMW_adr (f_X7_set u (gMW_adr u) ((gMW_d u) (((gMW_frm u) + (gMW_mov u)) : Int32).toNatClampNeg))) + (1 : Int32)) &&& (65535 : Int32)))) + (1 : Int32)))
  else 
    if (gMW_mov (sMW_mov (sMW_adr (sMW_d u (upd (gMW_d u) (((gMW_frm u) + (gMW_mov u)) : Int32).toNatClampNeg (f_X7_get u (gMW_adr u)))) (((gMW_adr (sMW_d u (upd (gMW_d u) (((gMW_frm u) + (gMW_mov u)) : Int32).toNatClampNeg (f_X7_get u (gMW_adr u))))) + (1 : Int32)) &&& (65535 : Int32))) ((gMW_mov (sMW_adr (sMW_d u (upd (gMW_d u) (((gMW_frm u) + (gMW_mov u)) : Int32).toNatClampNeg (f_X7_get u (gMW_adr u)))) (((gMW_adr (sMW_d u (upd (gMW_d u) (((gMW_frm u) + (gMW_mov u)) : Int32).toNatClampNeg (f_X7_get u (gMW_adr u))))) + (1 : Int32)) &&& (65535 : Int32)))) + (1 : Int32)))) = (64 : Int32) then 
      if ((gMW_call (sMW_st (sMW_mov (sMW_adr (sMW_d u (upd (gMW_d u) (((gMW_frm u) + (gMW_mov u)) : Int32).toNatClampNeg (f_X7_get u (gMW_adr u)))) (((gMW_adr (sMW_d u (upd (gMW_d u) (((gMW_frm u) + (gMW_mov u)) : Int32).toNatClampNeg (f_X7_get u (gMW_adr u))))) + (1 : Int32)) &&& (65535 : Int32))) ((gMW_mov (sMW_adr (sMW_d u (upd (gMW_d u) (((gMW_frm u) + (gMW_mov u)) : Int32).toNatClampNeg (f_X7_get u (gMW_adr u)))) (((gMW_adr (sMW_d u (upd (gMW_d u) (((gMW_frm u) + (gMW_mov u)) : Int32).toNatClampNeg (f_X7_get u (gMW_adr u))))) + (1 : Int32)) &&& (65535 : Int32)))) + (1 : Int32))) (((gMW_st (sMW_mov (sMW_adr (sMW_d u (upd (gMW_d u) (((gMW_frm u) + (gMW_mov u)) : Int32).toNatClampNeg (f_X7_get u (gMW_adr u)))) (((gMW_adr (sMW_d u (upd (gMW_d u) (((gMW_frm u) + (gMW_mov u)) : Int32).toNatClampNeg (f_X7_get u (gMW_adr u))))) + (1 : Int32)) &&& (65535 : Int32))) ((gMW_mov (sMW_adr (sMW_d u (upd (gMW_d u) (((gMW_frm u) + (gMW_mov u)) : Int32).toNatClampNeg (f_X7_get u (gMW_adr u)))) (((gMW_adr (sMW_d u (upd (gMW_d u) (((gMW_frm u) + (gMW_mov u)) : Int32).toNatClampNeg (f_X7_get u (gMW_adr u))))) + (1 : Int32)) &&& (65535 : Int32)))) + (1 : Int32)))) &&& (6 : Int32)) ||| (2 : Int32)))) &&& (8 : Int32)) = (0 : Int32) then (sMW_st (sMW_mov (sMW_adr (sMW_d u (upd (gMW_d u) (((gMW_frm u) + (gMW_mov u)) : Int32).toNatClampNeg (f_X7_get u (gMW_adr u)))) (((gMW_adr (sMW_d u (upd (gMW_d u) (((gMW_frm u) + (gMW_mov u)) : Int32).toNatClampNeg (f_X7_get u (gMW_adr u))))) + (1 : Int32)) &&& (65535 : Int32))) ((gMW_mov (sMW_adr (sMW_d u (upd (gMW_d u) (((gMW_frm u) + (gMW_mov u)) : Int32).toNatClampNeg (f_X7_get u (gMW_adr u)))) (((gMW_adr (sMW_d u (upd (gMW_d u) (((gMW_frm u) + (gMW_mov u)) : Int32).toNatClampNeg (f_X7_get u (gMW_adr u))))) + (1 : Int32)) &&& (65535 : Int32)))) + (1 : Int32))) (((gMW_st (sMW_mov (sMW_adr (sMW_d u (upd (gMW_d u) (((gMW_frm u) + (gMW_mov u)) : Int32).toNatClampNeg (f_X7_get u (gMW_adr u)))) (((gMW_adr (sMW_d u (upd (gMW_d u) (((gMW_frm u) + (gMW_mov u)) : Int32).toNatClampNeg (f_X7_get u (gMW_adr u))))) + (1 : Int32)) &&& (65535 : Int32))) ((gMW_mov (sMW_adr (sMW_d u (upd (gMW_d u) (((gMW_frm u) + (gMW_mov u)) : Int32).toNatClampNeg (f_X7_get u (gMW_adr u)))) (((gMW_adr (sMW_d u (upd (gMW_d u) (((gMW_frm u) + (gMW_mov u)) : Int32).toNatClampNeg (f_X7_get u (gMW_adr u))))) + (1 : Int32)) &&& (65535 : Int32)))) + (1 : Int32)))) &&& (6 : Int32)) ||| (2 : Int32)))
      else (sMW_want (sMW_st (sMW_mov (sMW_adr (sMW_d u (upd (gMW_d u) (((gMW_frm u) + (gMW_mov u)) : Int32).toNatClampNeg (f_X7_get u (gMW_adr u)))) (((gMW_adr (sMW_d u (upd (gMW_d u) (((gMW_frm u) + (gMW_mov u)) : Int32).toNatClampNeg (f_X7_get u (gMW_adr u))))) + (1 : Int32)) &&& (65535 : Int32))) ((gMW_mov (sMW_adr (sMW_d u (upd (gMW_d u) (((gMW_frm u) + (gMW_mov u)) : Int32).toNatClampNeg (f_X7_get u (gMW_adr u)))) (((gMW_adr (sMW_d u (upd (gMW_d u) (((gMW_frm u) + (gMW_mov u)) : Int32).toNatClampNeg (f_X7_get u (gMW_adr u))))) + (1 : Int32)) &&& (65535 : Int32)))) + (1 : Int32))) (((gMW_st (sMW_mov (sMW_adr (sMW_d u (upd (gMW_d u) (((gMW_frm u) + (gMW_mov u)) : Int32).toNatClampNeg (f_X7_get u (gMW_adr u)))) (((gMW_adr (sMW_d u (upd (gMW_d u) (((gMW_frm u) + (gMW_mov u)) : Int32).toNatClampNeg (f_X7_get u (gMW_adr u))))) + (1 : Int32)) &&& (65535 : Int32))) ((gMW_mov (sMW_adr (sMW_d u (upd (gMW_d u) (((gMW_frm u) + (gMW_mov u)) : Int32).toNatClampNeg (f_X7_get u (gMW_adr u)))) (((gMW_adr (sMW_d u (upd (gMW_d u) (((gMW_frm u) + (gMW_mov u)) : Int32).toNatClampNeg (f_X7_get u (gMW_adr u))))) + (1 : Int32)) &&& (65535 : Int32)))) + (1 : Int32)))) &&& (6 : Int32)) ||| (2 : Int32))) ((gMW_call (sMW_st (sMW_mov (sMW_adr (sMW_d u (upd (gMW_d u) (((gMW_frm u) + (gMW_mov u)) : Int32).toNatClampNeg (f_X7_get u (gMW_adr u)))) (((gMW_adr (sMW_d u (upd (gMW_d u) (((gMW_frm u) + (gMW_mov u)) : Int32).toNatClampNeg (f_X7_get u (gMW_adr u))))) + (1 : Int32)) &&& (65535 : Int32))) ((gMW_mov (sMW_adr (sMW_d u (upd (gMW_d u) (((gMW_frm u) + (gMW_mov u)) : Int32).toNatClampNeg (f_X7_get u (gMW_adr u)))) (((gMW_adr (sMW_d u (upd (gMW_d u) (((gMW_frm u) + (gMW_mov u)) : Int32).toNatClampNeg (f_X7_get u (gMW_adr u))))) + (1 : Int32)) &&& (65535 : Int32)))) + (1 : Int32))) (((gMW_st (sMW_mov (sMW_adr (sMW_d u (upd (gMW_d u) (((gMW_frm u) + (gMW_mov u)) : Int32).toNatClampNeg (f_X7_get u (gMW_adr u)))) (((gMW_adr (sMW_d u (upd (gMW_d u) (((gMW_frm u) + (gMW_mov u)) : Int32).toNatClampNeg (f_X7_get u (gMW_adr u))))) + (1 : Int32)) &&& (65535 : Int32))) ((gMW_mov (sMW_adr (sMW_d u (upd (gMW_d u) (((gMW_frm u) + (gMW_mov u)) : Int32).toNatClampNeg (f_X7_get u (gMW_adr u)))) (((gMW_adr (sMW_d u (upd (gMW_d u) (((gMW_frm u) + (gMW_mov u)) : Int32).toNatClampNeg (f_X7_get u (gMW_adr u))))) + (1 : Int32)) &&& (65535 : Int32)))) + (1 : Int32)))) &&& (6 : Int32)) ||| (2 : Int32)))) &&& (7 : Int32)))
    else (sMW_mov (sMW_adr (sMW_d u (upd (gMW_d u) (((gMW_frm u) + (gMW_mov u)) : Int32).toNatClampNeg (f_X7_get u (gMW_adr u)))) (((gMW_adr (sMW_d u (upd (gMW_d u) (((gMW_frm u) + (gMW_mov u)) : Int32).toNatClampNeg (f_X7_get u (gMW_adr u))))) + (1 : Int32)) &&& (65535 : Int32))) ((gMW_mov (sMW_adr (sMW_d u (upd (gMW_d u) (((gMW_frm u) + (gMW_mov u)) : Int32).toNatClampNeg (f_X7_get u (gMW_adr u)))) (((gMW_adr (sMW_d u (upd (gMW_d u) (((gMW_frm u) + (gMW_mov u)) : Int32).toNatClampNeg (f_X7_get u (gMW_adr u))))) + (1 : Int32)) &&& (65535 : Int32)))) + (1 : Int32)))
theorem qX7_moveOne_0 : Cond.fieldLink RX7 122 "DiskMachineModel" "command" "I" ∈ wsX7_moveOne := by decide +kernel
theorem qX7_moveOne_1 : Cond.fieldLink RX7 13 "DiskMachineModel" "disk" "[I" ∈ wsX7_moveOne := by decide +kernel
theorem qX7_moveOne_2 : Cond.fieldLink RX7 125 "DiskMachineModel" "from" "I" ∈ wsX7_moveOne := by decide +kernel
theorem qX7_moveOne_3 : Cond.fieldLink RX7 128 "DiskMachineModel" "moved" "I" ∈ wsX7_moveOne := by decide +kernel
theorem qX7_moveOne_4 : Cond.fieldLink RX7 115 "DiskMachineModel" "address" "I" ∈ wsX7_moveOne := by decide +kernel
theorem qX7_moveOne_5 : Cond.constant RX7 50 (65535) ∈ wsX7_moveOne := by decide +kernel
theorem qX7_moveOne_6 : Cond.fieldLink RX7 106 "DiskMachineModel" "state" "I" ∈ wsX7_moveOne := by decide +kernel
theorem qX7_moveOne_7 : Cond.fieldLink RX7 119 "DiskMachineModel" "call" "I" ∈ wsX7_moveOne := by decide +kernel
theorem qX7_moveOne_8 : Cond.fieldLink RX7 19 "DiskMachineModel" "wanted" "I" ∈ wsX7_moveOne := by decide +kernel
theorem iX7_moveOne_X7 : ∀ w ∈ wsX70, w ∈ wsX7_moveOne := by decide +kernel
set_option maxHeartbeats 4000000 in
set_option maxRecDepth 100000 in
theorem k_X7_moveOne (l : Launch) (dC : Nat → ClassId) (dI : Nat → Nat → Nat) (cI : ClassId) (mO memA dskA rgA inA outA : Nat) (sz : Nat) (u : MW) (hB : ∃ i j : Nat, i < 64 ∧ j < 64 ∧ gMW_frm u = nI (64 * i) ∧ gMW_mov u = nI j) : Met l yX7_moveOne wsX7_moveOne ({ frames := 1, cells := 0, slots := 0, locals := 22 }) (va_Pc [.ref mO] (wB dC dI [(cI, .int)] sz (wM cI mO memA dskA rgA inA outA u))) (va_Qv (fun u' : MW => u' = (f_X7_moveOne u)) (fun u' => wE dC dI [(cI, .int)] (va_A (wM cI mO memA dskA rgA inA outA u) sz) (wM cI mO memA dskA rgA inA outA u')) (va_A (wM cI mO memA dskA rgA inA outA u) sz)) 0 0 (va_A (wM cI mO memA dskA rgA inA outA u) sz) := by
  refine Met.ofW (cc := cX7_moveOne) (maxL := 1) (ret := none) (by decide) rfl ?_
  intro p e s m args below meth c s₁ B hml hv
  obtain ⟨rfl, hsz, hP, hK, hD0⟩ := hv
  have hx := B.exec
  have hb := B.bytes
  have hr := B.returns
  have hts := atoms_spec (ws := wsX7_moveOne) B.pre
  have hown : s.vm.findClass RX7 = some m.cls := findClass_of_methodNamed B.named
  have hlocks := B.notSynchronized
  subst hsz
  have hD := hD0.self (sz := s.heap.size)
  generalize hAe : va_A (wM cI mO memA dskA rgA inA outA u) s.heap.size = A at hD ⊢
  have hA : ∀ q : Nat, s.heap.size ≤ q → A q := fun q h => by rw [← hAe]; exact Or.inr h
  have hS : va_S A s.heap s.heap [] := va_S.rf
  have hP : va_P (dC, dI) vwCl (wM cI mO memA dskA rgA inA outA u) s.heap := hP
  clear hAe hD0
  have hl := lv_entry ([.ref mO]) (n := 1) (Nat.le_of_ble_eq_true rfl)
  rw [lg_entry_eq]
  generalize (lg_sl ([.ref mO]) ++ List.replicate (1 - (lg_sl ([.ref mO])).length) Slot.unset).toArray = ls at hl ⊢
  have hl : lv_has ls 1 [(0, .ref mO)] := hl
  refine jn_H hP hS (fun H locs hP hS => ?_)
  refine lv_aload_n hx hb dX7_moveOne_0 rfl (lv_at hl 0 rfl) ?_
  refine va_get (D := (dC, dI)) (ci := 7) (v := .int (gMW_cmd u)) (C := RX7) (T := TX7) (N := 30) hx hb hts iX7_moveOne_X7 hown hK hP 0 rfl rfl 25 (by decide) (hts _ qX7_moveOne_0) (fun _ h9 => h9) rfl dX7_moveOne_1 ?_
  refine lv_iconst (v := 1) hx hb dX7_moveOne_4 (by decide) ?_
  refine lv_icmp_ne (tgt := 33) hx hb dX7_moveOne_5 (by decide) (fun c1 => ?_) (fun c1 => ?_)
  · skip
    refine lv_aload_n hx hb dX7_moveOne_33 rfl (lv_at hl 0 rfl) ?_
    refine va_get (D := (dC, dI)) (ci := 7) (v := .ref dskA) (C := RX7) (T := TX7) (N := 30) hx hb hts iX7_moveOne_X7 hown hK hP 0 rfl rfl 2 (by decide) (hts _ qX7_moveOne_1) (fun _ h9 => h9) rfl dX7_moveOne_34 ?_
    refine lv_aload_n hx hb dX7_moveOne_37 rfl (lv_at hl 0 rfl) ?_
    refine va_get (D := (dC, dI)) (ci := 7) (v := .int (gMW_frm u)) (C := RX7) (T := TX7) (N := 30) hx hb hts iX7_moveOne_X7 hown hK hP 0 rfl rfl 26 (by decide) (hts _ qX7_moveOne_2) (fun _ h9 => h9) rfl dX7_moveOne_38 ?_
    refine lv_aload_n hx hb dX7_moveOne_41 rfl (lv_at hl 0 rfl) ?_
    refine va_get (D := (dC, dI)) (ci := 7) (v := .int (gMW_mov u)) (C := RX7) (T := TX7) (N := 30) hx hb hts iX7_moveOne_X7 hown hK hP 0 rfl rfl 27 (by decide) (hts _ qX7_moveOne_3) (fun _ h9 => h9) rfl dX7_moveOne_42 ?_
    refine lv_iadd hx hb dX7_moveOne_45 ?_
    refine lv_aload_n hx hb dX7_moveOne_46 rfl (lv_at hl 0 rfl) ?_
    refine lv_aload_n hx hb dX7_moveOne_47 rfl (lv_at hl 0 rfl) ?_
    refine va_get (D := (dC, dI)) (ci := 7) (v := .int (gMW_adr u)) (C := RX7) (T := TX7) (N := 30) hx hb hts iX7_moveOne_X7 hown hK hP 0 rfl rfl 22 (by decide) (hts _ qX7_moveOne_4) (fun _ h9 => h9) rfl dX7_moveOne_48 ?_
    obtain ⟨hPc, hDc, hFc⟩ := xM_M hP hD hS hA
    have hKc := hK.sub (tys' := [(cI, .int)]) [0] rfl
    refine va_calli (va_runV (As := [.int (gMW_adr u)]) (rest := [.int ((gMW_frm u) + (gMW_mov u)), .ref dskA]) ⟨hx, hb, hml, hown, hts⟩ (k_X7_get l dC dI cI mO memA dskA rgA inA outA H.size u (gMW_adr u)) (cwV 1 hts gX7_moveOne_X7_get rfl rfl rfl (by decide +kernel) ⟨Nat.le_of_ble_eq_true rfl, Nat.le_of_ble_eq_true rfl⟩) ⟨fun a U g mk q => by obtain ⟨q0, q1, qP, qK, qD⟩ := q; exact ⟨q0, q1, qP, va_K.moved (u := U) (U := U.calling g mk a) (Vm.Alike.refl U.vm) qK, qD⟩, va_recv hKc hPc (ci := 7) (q0 := 0) rfl rfl, fun U hU hW => ⟨rfl, by rw [hU], by rw [hU]; exact hPc, va_K.moved hW.alike hKc, hDc.weaken (fun _ _ _ _ => trivial)⟩⟩ rfl rfl hl.1 rfl (lv_room (Nat.le_of_ble_eq_true rfl)) dX7_moveOne_51 ⟨Nat.le_of_ble_eq_true rfl, Nat.le_of_ble_eq_true rfl⟩) hS (fun q _ h => hFc q h) hFc (fun r9 u9 t H1 locs ht hvm hw hB hz1 hk1 hS => ?_)
    obtain ⟨hw1, hw2⟩ := hw
    have hw2 := hw2.symm
    subst hw1 hw2
    obtain ⟨hP1, hK1, hD1⟩ := hB
    rw [ht] at hP1
    obtain ⟨hP, hD⟩ := jM_M0 hP hD hk1 hFc hP1 hD1
    clear hPc hDc hKc hFc hz1 hk1 hP1 hK1 hD1 ht hvm
    generalize H1 = H at hP hS ⊢
    refine va_iast (f := (gMW_d u)) hx hb hK hP hD hS 2 0 rfl rfl (ix_mv hB) dX7_moveOne_54 (fun H locs hP hD hS => ?_)
    obtain ⟨hP, hD⟩ := aM_dskA hP hD
    refine lv_aload_n hx hb dX7_moveOne_55 rfl (lv_at hl 0 rfl) ?_
    refine lv_aload_n hx hb dX7_moveOne_56 rfl (lv_at hl 0 rfl) ?_
    refine va_get (D := (dC, dI)) (ci := 7) (v := .int (gMW_adr (sMW_d u (upd (gMW_d u) (((gMW_frm u) + (gMW_mov u)) : Int32).toNatClampNeg (f_X7_get u (gMW_adr u)))))) (C := RX7) (T := TX7) (N := 30) hx hb hts iX7_moveOne_X7 hown hK hP 0 rfl rfl 22 (by decide) (hts _ qX7_moveOne_4) (fun _ h9 => h9) rfl dX7_moveOne_57 ?_
    refine lv_iconst (v := 1) hx hb dX7_moveOne_60 (by decide) ?_
    refine lv_iadd hx hb dX7_moveOne_61 ?_
    refine lv_ldc (v := 65535) hx hb hown (hts _ qX7_moveOne_5) dX7_moveOne_62 ?_
    refine lv_iand hx hb dX7_moveOne_64 ?_
    refine va_put (D := (dC, dI)) (ci := 7) (v := .int (((gMW_adr (sMW_d u (upd (gMW_d u) (((gMW_frm u) + (gMW_mov u)) : Int32).toNatClampNeg (f_X7_get u (gMW_adr u))))) + (1 : Int32)) &&& (65535 : Int32))) (ty := .int) (C := RX7) (T := TX7) (N := 30) hx hb hts iX7_moveOne_X7 tyX7 tyX7_ok nmX7 hown hK hP hD hS 0 rfl rfl 22 (by decide) (hts _ qX7_moveOne_4) (fun _ h9 => h9) rfl (by decide +kernel) rfl rfl (Nat.le_of_ble_eq_true rfl) dX7_moveOne_65 (fun H locs hP hD hS => ?_)
    obtain ⟨hP, hD⟩ := pM_adr hP hD
    refine lv_aload_n hx hb dX7_moveOne_68 rfl (lv_at hl 0 rfl) ?_
    refine lv_dup hx hb dX7_moveOne_69 rfl ?_
    refine va_get (D := (dC, dI)) (ci := 7) (v := .int (gMW_mov (sMW_adr (sMW_d u (upd (gMW_d u) (((gMW_frm u) + (gMW_mov u)) : Int32).toNatClampNeg (f_X7_get u (gMW_adr u)))) (((gMW_adr (sMW_d u (upd (gMW_d u) (((gMW_frm u) + (gMW_mov u)) : Int32).toNatClampNeg (f_X7_get u (gMW_adr u))))) + (1 : Int32)) &&& (65535 : Int32))))) (C := RX7) (T := TX7) (N := 30) hx hb hts iX7_moveOne_X7 hown hK hP 0 rfl rfl 27 (by decide) (hts _ qX7_moveOne_3) (fun _ h9 => h9) rfl dX7_moveOne_70 ?_
    refine lv_iconst (v := 1) hx hb dX7_moveOne_73 (by decide) ?_
    refine lv_iadd hx hb dX7_moveOne_74 ?_
    refine va_put (D := (dC, dI)) (ci := 7) (v := .int ((gMW_mov (sMW_adr (sMW_d u (upd (gMW_d u) (((gMW_frm u) + (gMW_mov u)) : Int32).toNatClampNeg (f_X7_get u (gMW_adr u)))) (((gMW_adr (sMW_d u (upd (gMW_d u) (((gMW_frm u) + (gMW_mov u)) : Int32).toNatClampNeg (f_X7_get u (gMW_adr u))))) + (1 : Int32)) &&& (65535 : Int32)))) + (1 : Int32))) (ty := .int) (C := RX7) (T := TX7) (N := 30) hx hb hts iX7_moveOne_X7 tyX7 tyX7_ok nmX7 hown hK hP hD hS 0 rfl rfl 27 (by decide) (hts _ qX7_moveOne_3) (fun _ h9 => h9) rfl (by decide +kernel) rfl rfl (Nat.le_of_ble_eq_true rfl) dX7_moveOne_75 (fun H locs hP hD hS => ?_)
    obtain ⟨hP, hD⟩ := pM_mov hP hD
    refine lv_aload_n hx hb dX7_moveOne_78 rfl (lv_at hl 0 rfl) ?_
    refine va_get (D := (dC, dI)) (ci := 7) (v := .int (gMW_mov (sMW_mov (sMW_adr (sMW_d u (upd (gMW_d u) (((gMW_frm u) + (gMW_mov u)) : Int32).toNatClampNeg (f_X7_get u (gMW_adr u)))) (((gMW_adr (sMW_d u (upd (gMW_d u) (((gMW_frm u) + (gMW_mov u)) : Int32).toNatClampNeg (f_X7_get u (gMW_adr u))))) + (1 : Int32)) &&& (65535 : Int32))) ((gMW_mov (sMW_adr (sMW_d u (upd (gMW_d u) (((gMW_frm u) + (gMW_mov u)) : Int32).toNatClampNeg (f_X7_get u (gMW_adr u)))) (((gMW_adr (sMW_d u (upd (gMW_d u) (((gMW_frm u) + (gMW_mov u)) : Int32).toNatClampNeg (f_X7_get u (gMW_adr u))))) + (1 : Int32)) &&& (65535 : Int32)))) + (1 : Int32))))) (C := RX7) (T := TX7) (N := 30) hx hb hts iX7_moveOne_X7 hown hK hP 0 rfl rfl 27 (by decide) (hts _ qX7_moveOne_3) (fun _ h9 => h9) rfl dX7_moveOne_79 ?_
    refine lv_bipush (v := 64) hx hb dX7_moveOne_82 (by decide) ?_
    refine lv_icmp_ne (tgt := 121) hx hb dX7_moveOne_84 (by decide) (fun c2 => ?_) (fun c2 => ?_)
    · skip
      exact W.vret hx hb hr (fun t ht hW => ⟨⟨(sMW_mov (sMW_adr (sMW_d u (upd (gMW_d u) (((gMW_frm u) + (gMW_mov u)) : Int32).toNatClampNeg (f_X7_get u (gMW_adr u)))) (((gMW_adr (sMW_d u (upd (gMW_d u) (((gMW_frm u) + (gMW_mov u)) : Int32).toNatClampNeg (f_X7_get u (gMW_adr u))))) + (1 : Int32)) &&& (65535 : Int32))) ((gMW_mov (sMW_adr (sMW_d u (upd (gMW_d u) (((gMW_frm u) + (gMW_mov u)) : Int32).toNatClampNeg (f_X7_get u (gMW_adr u)))) (((gMW_adr (sMW_d u (upd (gMW_d u) (((gMW_frm u) + (gMW_mov u)) : Int32).toNatClampNeg (f_X7_get u (gMW_adr u))))) + (1 : Int32)) &&& (65535 : Int32)))) + (1 : Int32))), rfl, (by simp only [f_X7_moveOne, if_neg c1, if_neg c2]), by rw [ht]; exact hP, va_K.moved hW.alike hK, hD⟩, hS.F ht⟩) hS.2.2 dX7_moveOne_121
    · skip
      refine lv_aload_n hx hb dX7_moveOne_87 rfl (lv_at hl 0 rfl) ?_
      refine lv_aload_n hx hb dX7_moveOne_88 rfl (lv_at hl 0 rfl) ?_
      refine va_get (D := (dC, dI)) (ci := 7) (v := .int (gMW_st (sMW_mov (sMW_adr (sMW_d u (upd (gMW_d u) (((gMW_frm u) + (gMW_mov u)) : Int32).toNatClampNeg (f_X7_get u (gMW_adr u)))) (((gMW_adr (sMW_d u (upd (gMW_d u) (((gMW_frm u) + (gMW_mov u)) : Int32).toNatClampNeg (f_X7_get u (gMW_adr u))))) + (1 : Int32)) &&& (65535 : Int32))) ((gMW_mov (sMW_adr (sMW_d u (upd (gMW_d u) (((gMW_frm u) + (gMW_mov u)) : Int32).toNatClampNeg (f_X7_get u (gMW_adr u)))) (((gMW_adr (sMW_d u (upd (gMW_d u) (((gMW_frm u) + (gMW_mov u)) : Int32).toNatClampNeg (f_X7_get u (gMW_adr u))))) + (1 : Int32)) &&& (65535 : Int32)))) + (1 : Int32))))) (C := RX7) (T := TX7) (N := 30) hx hb hts iX7_moveOne_X7 hown hK hP 0 rfl rfl 24 (by decide) (hts _ qX7_moveOne_6) (fun _ h9 => h9) rfl dX7_moveOne_89 ?_
      refine lv_bipush (v := 6) hx hb dX7_moveOne_92 (by decide) ?_
      refine lv_iand hx hb dX7_moveOne_94 ?_
      refine lv_iconst (v := 2) hx hb dX7_moveOne_95 (by decide) ?_
      refine lv_ior hx hb dX7_moveOne_96 ?_
      refine va_put (D := (dC, dI)) (ci := 7) (v := .int (((gMW_st (sMW_mov (sMW_adr (sMW_d u (upd (gMW_d u) (((gMW_frm u) + (gMW_mov u)) : Int32).toNatClampNeg (f_X7_get u (gMW_adr u)))) (((gMW_adr (sMW_d u (upd (gMW_d u) (((gMW_frm u) + (gMW_mov u)) : Int32).toNatClampNeg (f_X7_get u (gMW_adr u))))) + (1 : Int32)) &&& (65535 : Int32))) ((gMW_mov (sMW_adr (sMW_d u (upd (gMW_d u) (((gMW_frm u) + (gMW_mov u)) : Int32).toNatClampNeg (f_X7_get u (gMW_adr u)))) (((gMW_adr (sMW_d u (upd (gMW_d u) (((gMW_frm u) + (gMW_mov u)) : Int32).toNatClampNeg (f_X7_get u (gMW_adr u))))) + (1 : Int32)) &&& (65535 : Int32)))) + (1 : Int32)))) &&& (6 : Int32)) ||| (2 : Int32))) (ty := .int) (C := RX7) (T := TX7) (N := 30) hx hb hts iX7_moveOne_X7 tyX7 tyX7_ok nmX7 hown hK hP hD hS 0 rfl rfl 24 (by decide) (hts _ qX7_moveOne_6) (fun _ h9 => h9) rfl (by decide +kernel) rfl rfl (Nat.le_of_ble_eq_true rfl) dX7_moveOne_97 (fun H locs hP hD hS => ?_)
      obtain ⟨hP, hD⟩ := pM_st hP hD
      refine lv_aload_n hx hb dX7_moveOne_100 rfl (lv_at hl 0 rfl) ?_
      refine va_get (D := (dC, dI)) (ci := 7) (v := .int (gMW_call (sMW_st (sMW_mov (sMW_adr (sMW_d u (upd (gMW_d u) (((gMW_frm u) + (gMW_mov u)) : Int32).toNatClampNeg (f_X7_get u (gMW_adr u)))) (((gMW_adr (sMW_d u (upd (gMW_d u) (((gMW_frm u) + (gMW_mov u)) : Int32).toNatClampNeg (f_X7_get u (gMW_adr u))))) + (1 : Int32)) &&& (65535 : Int32))) ((gMW_mov (sMW_adr (sMW_d u (upd (gMW_d u) (((gMW_frm u) + (gMW_mov u)) : Int32).toNatClampNeg (f_X7_get u (gMW_adr u)))) (((gMW_adr (sMW_d u (upd (gMW_d u) (((gMW_frm u) + (gMW_mov u)) : Int32).toNatClampNeg (f_X7_get u (gMW_adr u))))) + (1 : Int32)) &&& (65535 : Int32)))) + (1 : Int32))) (((gMW_st (sMW_mov (sMW_adr (sMW_d u (upd (gMW_d u) (((gMW_frm u) + (gMW_mov u)) : Int32).toNatClampNeg (f_X7_get u (gMW_adr u)))) (((gMW_adr (sMW_d u (upd (gMW_d u) (((gMW_frm u) + (gMW_mov u)) : Int32).toNatClampNeg (f_X7_get u (gMW_adr u))))) + (1 : Int32)) &&& (65535 : Int32))) ((gMW_mov (sMW_adr (sMW_d u (upd (gMW_d u) (((gMW_frm u) + (gMW_mov u)) : Int32).toNatClampNeg (f_X7_get u (gMW_adr u)))) (((gMW_adr (sMW_d u (upd (gMW_d u) (((gMW_frm u) + (gMW_mov u)) : Int32).toNatClampNeg (f_X7_get u (gMW_adr u))))) + (1 : Int32)) &&& (65535 : Int32)))) + (1 : Int32)))) &&& (6 : Int32)) ||| (2 : Int32))))) (C := RX7) (T := TX7) (N := 30) hx hb hts iX7_moveOne_X7 hown hK hP 0 rfl rfl 23 (by decide) (hts _ qX7_moveOne_7) (fun _ h9 => h9) rfl dX7_moveOne_101 ?_
      refine lv_bipush (v := 8) hx hb dX7_moveOne_104 (by decide) ?_
      refine lv_iand hx hb dX7_moveOne_106 ?_
      refine lv_if_eq (tgt := 121) hx hb dX7_moveOne_107 (by decide) (fun c3 => ?_) (fun c3 => ?_)
      · skip
        exact W.vret hx hb hr (fun t ht hW => ⟨⟨(sMW_st (sMW_mov (sMW_adr (sMW_d u (upd (gMW_d u) (((gMW_frm u) + (gMW_mov u)) : Int32).toNatClampNeg (f_X7_get u (gMW_adr u)))) (((gMW_adr (sMW_d u (upd (gMW_d u) (((gMW_frm u) + (gMW_mov u)) : Int32).toNatClampNeg (f_X7_get u (gMW_adr u))))) + (1 : Int32)) &&& (65535 : Int32))) ((gMW_mov (sMW_adr (sMW_d u (upd (gMW_d u) (((gMW_frm u) + (gMW_mov u)) : Int32).toNatClampNeg (f_X7_get u (gMW_adr u)))) (((gMW_adr (sMW_d u (upd (gMW_d u) (((gMW_frm u) + (gMW_mov u)) : Int32).toNatClampNeg (f_X7_get u (gMW_adr u))))) + (1 : Int32)) &&& (65535 : Int32)))) + (1 : Int32))) (((gMW_st (sMW_mov (sMW_adr (sMW_d u (upd (gMW_d u) (((gMW_frm u) + (gMW_mov u)) : Int32).toNatClampNeg (f_X7_get u (gMW_adr u)))) (((gMW_adr (sMW_d u (upd (gMW_d u) (((gMW_frm u) + (gMW_mov u)) : Int32).toNatClampNeg (f_X7_get u (gMW_adr u))))) + (1 : Int32)) &&& (65535 : Int32))) ((gMW_mov (sMW_adr (sMW_d u (upd (gMW_d u) (((gMW_frm u) + (gMW_mov u)) : Int32).toNatClampNeg (f_X7_get u (gMW_adr u)))) (((gMW_adr (sMW_d u (upd (gMW_d u) (((gMW_frm u) + (gMW_mov u)) : Int32).toNatClampNeg (f_X7_get u (gMW_adr u))))) + (1 : Int32)) &&& (65535 : Int32)))) + (1 : Int32)))) &&& (6 : Int32)) ||| (2 : Int32))), rfl, (by simp only [f_X7_moveOne, if_neg c1, if_pos c2, if_pos c3]), by rw [ht]; exact hP, va_K.moved hW.alike hK, hD⟩, hS.F ht⟩) hS.2.2 dX7_moveOne_121
      · skip
        refine lv_aload_n hx hb dX7_moveOne_110 rfl (lv_at hl 0 rfl) ?_
        refine lv_aload_n hx hb dX7_moveOne_111 rfl (lv_at hl 0 rfl) ?_
        refine va_get (D := (dC, dI)) (ci := 7) (v := .int (gMW_call (sMW_st (sMW_mov (sMW_adr (sMW_d u (upd (gMW_d u) (((gMW_frm u) + (gMW_mov u)) : Int32).toNatClampNeg (f_X7_get u (gMW_adr u)))) (((gMW_adr (sMW_d u (upd (gMW_d u) (((gMW_frm u) + (gMW_mov u)) : Int32).toNatClampNeg (f_X7_get u (gMW_adr u))))) + (1 : Int32)) &&& (65535 : Int32))) ((gMW_mov (sMW_adr (sMW_d u (upd (gMW_d u) (((gMW_frm u) + (gMW_mov u)) : Int32).toNatClampNeg (f_X7_get u (gMW_adr u)))) (((gMW_adr (sMW_d u (upd (gMW_d u) (((gMW_frm u) + (gMW_mov u)) : Int32).toNatClampNeg (f_X7_get u (gMW_adr u))))) + (1 : Int32)) &&& (65535 : Int32)))) + (1 : Int32))) (((gMW_st (sMW_mov (sMW_adr (sMW_d u (upd (gMW_d u) (((gMW_frm u) + (gMW_mov u)) : Int32).toNatClampNeg (f_X7_get u (gMW_adr u)))) (((gMW_adr (sMW_d u (upd (gMW_d u) (((gMW_frm u) + (gMW_mov u)) : Int32).toNatClampNeg (f_X7_get u (gMW_adr u))))) + (1 : Int32)) &&& (65535 : Int32))) ((gMW_mov (sMW_adr (sMW_d u (upd (gMW_d u) (((gMW_frm u) + (gMW_mov u)) : Int32).toNatClampNeg (f_X7_get u (gMW_adr u)))) (((gMW_adr (sMW_d u (upd (gMW_d u) (((gMW_frm u) + (gMW_mov u)) : Int32).toNatClampNeg (f_X7_get u (gMW_adr u))))) + (1 : Int32)) &&& (65535 : Int32)))) + (1 : Int32)))) &&& (6 : Int32)) ||| (2 : Int32))))) (C := RX7) (T := TX7) (N := 30) hx hb hts iX7_moveOne_X7 hown hK hP 0 rfl rfl 23 (by decide) (hts _ qX7_moveOne_7) (fun _ h9 => h9) rfl dX7_moveOne_112 ?_
        refine lv_bipush (v := 7) hx hb dX7_moveOne_115 (by decide) ?_
        refine lv_iand hx hb dX7_moveOne_117 ?_
        refine va_put (D := (dC, dI)) (ci := 7) (v := .int ((gMW_call (sMW_st (sMW_mov (sMW_adr (sMW_d u (upd (gMW_d u) (((gMW_frm u) + (gMW_mov u)) : Int32).toNatClampNeg (f_X7_get u (gMW_adr u)))) (((gMW_adr (sMW_d u (upd (gMW_d u) (((gMW_frm u) + (gMW_mov u)) : Int32).toNatClampNeg (f_X7_get u (gMW_adr u))))) + (1 : Int32)) &&& (65535 : Int32))) ((gMW_mov (sMW_adr (sMW_d u (upd (gMW_d u) (((gMW_frm u) + (gMW_mov u)) : Int32).toNatClampNeg (f_X7_get u (gMW_adr u)))) (((gMW_adr (sMW_d u (upd (gMW_d u) (((gMW_frm u) + (gMW_mov u)) : Int32).toNatClampNeg (f_X7_get u (gMW_adr u))))) + (1 : Int32)) &&& (65535 : Int32)))) + (1 : Int32))) (((gMW_st (sMW_mov (sMW_adr (sMW_d u (upd (gMW_d u) (((gMW_frm u) + (gMW_mov u)) : Int32).toNatClampNeg (f_X7_get u (gMW_adr u)))) (((gMW_adr (sMW_d u (upd (gMW_d u) (((gMW_frm u) + (gMW_mov u)) : Int32).toNatClampNeg (f_X7_get u (gMW_adr u))))) + (1 : Int32)) &&& (65535 : Int32))) ((gMW_mov (sMW_adr (sMW_d u (upd (gMW_d u) (((gMW_frm u) + (gMW_mov u)) : Int32).toNatClampNeg (f_X7_get u (gMW_adr u)))) (((gMW_adr (sMW_d u (upd (gMW_d u) (((gMW_frm u) + (gMW_mov u)) : Int32).toNatClampNeg (f_X7_get u (gMW_adr u))))) + (1 : Int32)) &&& (65535 : Int32)))) + (1 : Int32)))) &&& (6 : Int32)) ||| (2 : Int32)))) &&& (7 : Int32))) (ty := .int) (C := RX7) (T := TX7) (N := 30) hx hb hts iX7_moveOne_X7 tyX7 tyX7_ok nmX7 hown hK hP hD hS 0 rfl rfl 14 (by decide) (hts _ qX7_moveOne_8) (fun _ h9 => h9) rfl (by decide +kernel) rfl rfl (Nat.le_of_ble_eq_true rfl) dX7_moveOne_118 (fun H locs hP hD hS => ?_)
        obtain ⟨hP, hD⟩ := pM_want hP hD
        exact W.vret hx hb hr (fun t ht hW => ⟨⟨(sMW_want (sMW_st (sMW_mov (sMW_adr (sMW_d u (upd (gMW_d u) (((gMW_frm u) + (gMW_mov u)) : Int32).toNatClampNeg (f_X7_get u (gMW_adr u)))) (((gMW_adr (sMW_d u (upd (gMW_d u) (((gMW_frm u) + (gMW_mov u)) : Int32).toNatClampNeg (f_X7_get u (gMW_adr u))))) + (1 : Int32)) &&& (65535 : Int32))) ((gMW_mov (sMW_adr (sMW_d u (upd (gMW_d u) (((gMW_frm u) + (gMW_mov u)) : Int32).toNatClampNeg (f_X7_get u (gMW_adr u)))) (((gMW_adr (sMW_d u (upd (gMW_d u) (((gMW_frm u) + (gMW_mov u)) : Int32).toNatClampNeg (f_X7_get u (gMW_adr u))))) + (1 : Int32)) &&& (65535 : Int32)))) + (1 : Int32))) (((gMW_st (sMW_mov (sMW_adr (sMW_d u (upd (gMW_d u) (((gMW_frm u) + (gMW_mov u)) : Int32).toNatClampNeg (f_X7_get u (gMW_adr u)))) (((gMW_adr (sMW_d u (upd (gMW_d u) (((gMW_frm u) + (gMW_mov u)) : Int32).toNatClampNeg (f_X7_get u (gMW_adr u))))) + (1 : Int32)) &&& (65535 : Int32))) ((gMW_mov (sMW_adr (sMW_d u (upd (gMW_d u) (((gMW_frm u) + (gMW_mov u)) : Int32).toNatClampNeg (f_X7_get u (gMW_adr u)))) (((gMW_adr (sMW_d u (upd (gMW_d u) (((gMW_frm u) + (gMW_mov u)) : Int32).toNatClampNeg (f_X7_get u (gMW_adr u))))) + (1 : Int32)) &&& (65535 : Int32)))) + (1 : Int32)))) &&& (6 : Int32)) ||| (2 : Int32))) ((gMW_call (sMW_st (sMW_mov (sMW_adr (sMW_d u (upd (gMW_d u) (((gMW_frm u) + (gMW_mov u)) : Int32).toNatClampNeg (f_X7_get u (gMW_adr u)))) (((gMW_adr (sMW_d u (upd (gMW_d u) (((gMW_frm u) + (gMW_mov u)) : Int32).toNatClampNeg (f_X7_get u (gMW_adr u))))) + (1 : Int32)) &&& (65535 : Int32))) ((gMW_mov (sMW_adr (sMW_d u (upd (gMW_d u) (((gMW_frm u) + (gMW_mov u)) : Int32).toNatClampNeg (f_X7_get u (gMW_adr u)))) (((gMW_adr (sMW_d u (upd (gMW_d u) (((gMW_frm u) + (gMW_mov u)) : Int32).toNatClampNeg (f_X7_get u (gMW_adr u))))) + (1 : Int32)) &&& (65535 : Int32)))) + (1 : Int32))) (((gMW_st (sMW_mov (sMW_adr (sMW_d u (upd (gMW_d u) (((gMW_frm u) + (gMW_mov u)) : Int32).toNatClampNeg (f_X7_get u (gMW_adr u)))) (((gMW_adr (sMW_d u (upd (gMW_d u) (((gMW_frm u) + (gMW_mov u)) : Int32).toNatClampNeg (f_X7_get u (gMW_adr u))))) + (1 : Int32)) &&& (65535 : Int32))) ((gMW_mov (sMW_adr (sMW_d u (upd (gMW_d u) (((gMW_frm u) + (gMW_mov u)) : Int32).toNatClampNeg (f_X7_get u (gMW_adr u)))) (((gMW_adr (sMW_d u (upd (gMW_d u) (((gMW_frm u) + (gMW_mov u)) : Int32).toNatClampNeg (f_X7_get u (gMW_adr u))))) + (1 : Int32)) &&& (65535 : Int32)))) + (1 : Int32)))) &&& (6 : Int32)) ||| (2 : Int32)))) &&& (7 : Int32))), rfl, (by simp only [f_X7_moveOne, if_neg c1, if_pos c2, if_neg c3]), by rw [ht]; exact hP, va_K.moved hW.alike hK, hD⟩, hS.F ht⟩) hS.2.2 dX7_moveOne_121
  · skip
    refine lv_aload_n hx hb dX7_moveOne_8 rfl (lv_at hl 0 rfl) ?_
    refine lv_aload_n hx hb dX7_moveOne_9 rfl (lv_at hl 0 rfl) ?_
    refine va_get (D := (dC, dI)) (ci := 7) (v := .int (gMW_adr u)) (C := RX7) (T := TX7) (N := 30) hx hb hts iX7_moveOne_X7 hown hK hP 0 rfl rfl 22 (by decide) (hts _ qX7_moveOne_4) (fun _ h9 => h9) rfl dX7_moveOne_10 ?_
    refine lv_aload_n hx hb dX7_moveOne_13 rfl (lv_at hl 0 rfl) ?_
    refine va_get (D := (dC, dI)) (ci := 7) (v := .ref dskA) (C := RX7) (T := TX7) (N := 30) hx hb hts iX7_moveOne_X7 hown hK hP 0 rfl rfl 2 (by decide) (hts _ qX7_moveOne_1) (fun _ h9 => h9) rfl dX7_moveOne_14 ?_
    refine lv_aload_n hx hb dX7_moveOne_17 rfl (lv_at hl 0 rfl) ?_
    refine va_get (D := (dC, dI)) (ci := 7) (v := .int (gMW_frm u)) (C := RX7) (T := TX7) (N := 30) hx hb hts iX7_moveOne_X7 hown hK hP 0 rfl rfl 26 (by decide) (hts _ qX7_moveOne_2) (fun _ h9 => h9) rfl dX7_moveOne_18 ?_
    refine lv_aload_n hx hb dX7_moveOne_21 rfl (lv_at hl 0 rfl) ?_
    refine va_get (D := (dC, dI)) (ci := 7) (v := .int (gMW_mov u)) (C := RX7) (T := TX7) (N := 30) hx hb hts iX7_moveOne_X7 hown hK hP 0 rfl rfl 27 (by decide) (hts _ qX7_moveOne_3) (fun _ h9 => h9) rfl dX7_moveOne_22 ?_
    refine lv_iadd hx hb dX7_moveOne_25 ?_
    refine va_iald (f := (gMW_d u)) hx hb hK hP 2 0 rfl rfl (ix_mv hB) dX7_moveOne_26 ?_
    obtain ⟨hPc, hDc, hFc⟩ := xM_M hP hD hS hA
    have hKc := hK.sub (tys' := [(cI, .int)]) [0] rfl
    refine va_callv (va_runV (As := [.int (gMW_adr u), .int ((gMW_d u) (((gMW_frm u) + (gMW_mov u)) : Int32).toNatClampNeg)]) (rest := []) ⟨hx, hb, hml, hown, hts⟩ (k_X7_set l dC dI cI mO memA dskA rgA inA outA H.size u (gMW_adr u) ((gMW_d u) (((gMW_frm u) + (gMW_mov u)) : Int32).toNatClampNeg)) (cwV 2 hts gX7_moveOne_X7_set rfl rfl rfl (by decide +kernel) ⟨Nat.le_of_ble_eq_true rfl, Nat.le_of_ble_eq_true rfl⟩) ⟨fun a U g mk q => by obtain ⟨q0, q1, qP, qK, qD⟩ := q; exact ⟨q0, q1, qP, va_K.moved (u := U) (U := U.calling g mk a) (Vm.Alike.refl U.vm) qK, qD⟩, va_recv hKc hPc (ci := 7) (q0 := 0) rfl rfl, fun U hU hW => ⟨rfl, by rw [hU], by rw [hU]; exact hPc, va_K.moved hW.alike hKc, hDc.weaken (fun _ _ _ _ => trivial)⟩⟩ rfl rfl hl.1 rfl (lv_room (Nat.le_of_ble_eq_true rfl)) dX7_moveOne_27 ⟨Nat.le_of_ble_eq_true rfl, Nat.le_of_ble_eq_true rfl⟩) hS (fun q _ h => hFc q h) hFc (fun u9 t H1 locs ht hvm hw hB hz1 hk1 hS => ?_)
    subst hw
    obtain ⟨hP1, hK1, hD1⟩ := hB
    rw [ht] at hP1
    obtain ⟨hP, hD⟩ := jM_M hP hD hk1 hFc hP1 hD1
    clear hPc hDc hKc hFc hz1 hk1 hP1 hK1 hD1 ht hvm
    generalize H1 = H at hP hS ⊢
    refine lv_goto (tgt := 55) hx hb dX7_moveOne_30 (by decide) ?_
    refine lv_aload_n hx hb dX7_moveOne_55 rfl (lv_at hl 0 rfl) ?_
    refine lv_aload_n hx hb dX7_moveOne_56 rfl (lv_at hl 0 rfl) ?_
    refine va_get (D := (dC, dI)) (ci := 7) (v := .int (gMW_adr (f_X7_set u (gMW_adr u) ((gMW_d u) (((gMW_frm u) + (gMW_mov u)) : Int32).toNatClampNeg)))) (C := RX7) (T := TX7) (N := 30) hx hb hts iX7_moveOne_X7 hown hK hP 0 rfl rfl 22 (by decide) (hts _ qX7_moveOne_4) (fun _ h9 => h9) rfl dX7_moveOne_57 ?_
    refine lv_iconst (v := 1) hx hb dX7_moveOne_60 (by decide) ?_
    refine lv_iadd hx hb dX7_moveOne_61 ?_
    refine lv_ldc (v := 65535) hx hb hown (hts _ qX7_moveOne_5) dX7_moveOne_62 ?_
    refine lv_iand hx hb dX7_moveOne_64 ?_
    refine va_put (D := (dC, dI)) (ci := 7) (v := .int (((gMW_adr (f_X7_set u (gMW_adr u) ((gMW_d u) (((gMW_frm u) + (gMW_mov u)) : Int32).toNatClampNeg))) + (1 : Int32)) &&& (65535 : Int32))) (ty := .int) (C := RX7) (T := TX7) (N := 30) hx hb hts iX7_moveOne_X7 tyX7 tyX7_ok nmX7 hown hK hP hD hS 0 rfl rfl 22 (by decide) (hts _ qX7_moveOne_4) (fun _ h9 => h9) rfl (by decide +kernel) rfl rfl (Nat.le_of_ble_eq_true rfl) dX7_moveOne_65 (fun H locs hP hD hS => ?_)
    obtain ⟨hP, hD⟩ := pM_adr hP hD
    refine lv_aload_n hx hb dX7_moveOne_68 rfl (lv_at hl 0 rfl) ?_
    refine lv_dup hx hb dX7_moveOne_69 rfl ?_
    refine va_get (D := (dC, dI)) (ci := 7) (v := .int (gMW_mov (sMW_adr (f_X7_set u (gMW_adr u) ((gMW_d u) (((gMW_frm u) + (gMW_mov u)) : Int32).toNatClampNeg)) (((gMW_adr (f_X7_set u (gMW_adr u) ((gMW_d u) (((gMW_frm u) + (gMW_mov u)) : Int32).toNatClampNeg))) + (1 : Int32)) &&& (65535 : Int32))))) (C := RX7) (T := TX7) (N := 30) hx hb hts iX7_moveOne_X7 hown hK hP 0 rfl rfl 27 (by decide) (hts _ qX7_moveOne_3) (fun _ h9 => h9) rfl dX7_moveOne_70 ?_
    refine lv_iconst (v := 1) hx hb dX7_moveOne_73 (by decide) ?_
    refine lv_iadd hx hb dX7_moveOne_74 ?_
    refine va_put (D := (dC, dI)) (ci := 7) (v := .int ((gMW_mov (sMW_adr (f_X7_set u (gMW_adr u) ((gMW_d u) (((gMW_frm u) + (gMW_mov u)) : Int32).toNatClampNeg)) (((gMW_adr (f_X7_set u (gMW_adr u) ((gMW_d u) (((gMW_frm u) + (gMW_mov u)) : Int32).toNatClampNeg))) + (1 : Int32)) &&& (65535 : Int32)))) + (1 : Int32))) (ty := .int) (C := RX7) (T := TX7) (N := 30) hx hb hts iX7_moveOne_X7 tyX7 tyX7_ok nmX7 hown hK hP hD hS 0 rfl rfl 27 (by decide) (hts _ qX7_moveOne_3) (fun _ h9 => h9) rfl (by decide +kernel) rfl rfl (Nat.le_of_ble_eq_true rfl) dX7_moveOne_75 (fun H locs hP hD hS => ?_)
    obtain ⟨hP, hD⟩ := pM_mov hP hD
    refine lv_aload_n hx hb dX7_moveOne_78 rfl (lv_at hl 0 rfl) ?_
    refine va_get (D := (dC, dI)) (ci := 7) (v := .int (gMW_mov (sMW_mov (sMW_adr (f_X7_set u (gMW_adr u) ((gMW_d u) (((gMW_frm u) + (gMW_mov u)) : Int32).toNatClampNeg)) (((gMW_adr (f_X7_set u (gMW_adr u) ((gMW_d u) (((gMW_frm u) + (gMW_mov u)) : Int32).toNatClampNeg))) + (1 : Int32)) &&& (65535 : Int32))) ((gMW_mov (sMW_adr (f_X7_set u (gMW_adr u) ((gMW_d u) (((gMW_frm u) + (gMW_mov u)) : Int32).toNatClampNeg)) (((gMW_adr (f_X7_set u (gMW_adr u) ((gMW_d u) (((gMW_frm u) + (gMW_mov u)) : Int32).toNatClampNeg))) + (1 : Int32)) &&& (65535 : Int32)))) + (1 : Int32))))) (C := RX7) (T := TX7) (N := 30) hx hb hts iX7_moveOne_X7 hown hK hP 0 rfl rfl 27 (by decide) (hts _ qX7_moveOne_3) (fun _ h9 => h9) rfl dX7_moveOne_79 ?_
    refine lv_bipush (v := 64) hx hb dX7_moveOne_82 (by decide) ?_
    refine lv_icmp_ne (tgt := 121) hx hb dX7_moveOne_84 (by decide) (fun c4 => ?_) (fun c4 => ?_)
    · skip
      exact W.vret hx hb hr (fun t ht hW => ⟨⟨(sMW_mov (sMW_adr (f_X7_set u (gMW_adr u) ((gMW_d u) (((gMW_frm u) + (gMW_mov u)) : Int32).toNatClampNeg)) (((gMW_adr (f_X7_set u (gMW_adr u) ((gMW_d u) (((gMW_frm u) + (gMW_mov u)) : Int32).toNatClampNeg))) + (1 : Int32)) &&& (65535 : Int32))) ((gMW_mov (sMW_adr (f_X7_set u (gMW_adr u) ((gMW_d u) (((gMW_frm u) + (gMW_mov u)) : Int32).toNatClampNeg)) (((gMW_adr (f_X7_set u (gMW_adr u) ((gMW_d u) (((gMW_frm u) + (gMW_mov u)) : Int32).toNatClampNeg))) + (1 : Int32)) &&& (65535 : Int32)))) + (1 : Int32))), rfl, (by simp only [f_X7_moveOne, if_pos c1, if_neg c4]), by rw [ht]; exact hP, va_K.moved hW.alike hK, hD⟩, hS.F ht⟩) hS.2.2 dX7_moveOne_121
    · skip
      refine lv_aload_n hx hb dX7_moveOne_87 rfl (lv_at hl 0 rfl) ?_
      refine lv_aload_n hx hb dX7_moveOne_88 rfl (lv_at hl 0 rfl) ?_
      refine va_get (D := (dC, dI)) (ci := 7) (v := .int (gMW_st (sMW_mov (sMW_adr (f_X7_set u (gMW_adr u) ((gMW_d u) (((gMW_frm u) + (gMW_mov u)) : Int32).toNatClampNeg)) (((gMW_adr (f_X7_set u (gMW_adr u) ((gMW_d u) (((gMW_frm u) + (gMW_mov u)) : Int32).toNatClampNeg))) + (1 : Int32)) &&& (65535 : Int32))) ((gMW_mov (sMW_adr (f_X7_set u (gMW_adr u) ((gMW_d u) (((gMW_frm u) + (gMW_mov u)) : Int32).toNatClampNeg)) (((gMW_adr (f_X7_set u (gMW_adr u) ((gMW_d u) (((gMW_frm u) + (gMW_mov u)) : Int32).toNatClampNeg))) + (1 : Int32)) &&& (65535 : Int32)))) + (1 : Int32))))) (C := RX7) (T := TX7) (N := 30) hx hb hts iX7_moveOne_X7 hown hK hP 0 rfl rfl 24 (by decide) (hts _ qX7_moveOne_6) (fun _ h9 => h9) rfl dX7_moveOne_89 ?_
      refine lv_bipush (v := 6) hx hb dX7_moveOne_92 (by decide) ?_
      refine lv_iand hx hb dX7_moveOne_94 ?_
      refine lv_iconst (v := 2) hx hb dX7_moveOne_95 (by decide) ?_
      refine lv_ior hx hb dX7_moveOne_96 ?_
      refine va_put (D := (dC, dI)) (ci := 7) (v := .int (((gMW_st (sMW_mov (sMW_adr (f_X7_set u (gMW_adr u) ((gMW_d u) (((gMW_frm u) + (gMW_mov u)) : Int32).toNatClampNeg)) (((gMW_adr (f_X7_set u (gMW_adr u) ((gMW_d u) (((gMW_frm u) + (gMW_mov u)) : Int32).toNatClampNeg))) + (1 : Int32)) &&& (65535 : Int32))) ((gMW_mov (sMW_adr (f_X7_set u (gMW_adr u) ((gMW_d u) (((gMW_frm u) + (gMW_mov u)) : Int32).toNatClampNeg)) (((gMW_adr (f_X7_set u (gMW_adr u) ((gMW_d u) (((gMW_frm u) + (gMW_mov u)) : Int32).toNatClampNeg))) + (1 : Int32)) &&& (65535 : Int32)))) + (1 : Int32)))) &&& (6 : Int32)) ||| (2 : Int32))) (ty := .int) (C := RX7) (T := TX7) (N := 30) hx hb hts iX7_moveOne_X7 tyX7 tyX7_ok nmX7 hown hK hP hD hS 0 rfl rfl 24 (by decide) (hts _ qX7_moveOne_6) (fun _ h9 => h9) rfl (by decide +kernel) rfl rfl (Nat.le_of_ble_eq_true rfl) dX7_moveOne_97 (fun H locs hP hD hS => ?_)
      obtain ⟨hP, hD⟩ := pM_st hP hD
      refine lv_aload_n hx hb dX7_moveOne_100 rfl (lv_at hl 0 rfl) ?_
      refine va_get (D := (dC, dI)) (ci := 7) (v := .int (gMW_call (sMW_st (sMW_mov (sMW_adr (f_X7_set u (gMW_adr u) ((gMW_d u) (((gMW_frm u) + (gMW_mov u)) : Int32).toNatClampNeg)) (((gMW_adr (f_X7_set u (gMW_adr u) ((gMW_d u) (((gMW_frm u) + (gMW_mov u)) : Int32).toNatClampNeg))) + (1 : Int32)) &&& (65535 : Int32))) ((gMW_mov (sMW_adr (f_X7_set u (gMW_adr u) ((gMW_d u) (((gMW_frm u) + (gMW_mov u)) : Int32).toNatClampNeg)) (((gMW_adr (f_X7_set u (gMW_adr u) ((gMW_d u) (((gMW_frm u) + (gMW_mov u)) : Int32).toNatClampNeg))) + (1 : Int32)) &&& (65535 : Int32)))) + (1 : Int32))) (((gMW_st (sMW_mov (sMW_adr (f_X7_set u (gMW_adr u) ((gMW_d u) (((gMW_frm u) + (gMW_mov u)) : Int32).toNatClampNeg)) (((gMW_adr (f_X7_set u (gMW_adr u) ((gMW_d u) (((gMW_frm u) + (gMW_mov u)) : Int32).toNatClampNeg))) + (1 : Int32)) &&& (65535 : Int32))) ((gMW_mov (sMW_adr (f_X7_set u (gMW_adr u) ((gMW_d u) (((gMW_frm u) + (gMW_mov u)) : Int32).toNatClampNeg)) (((gMW_adr (f_X7_set u (gMW_adr u) ((gMW_d u) (((gMW_frm u) + (gMW_mov u)) : Int32).toNatClampNeg))) + (1 : Int32)) &&& (65535 : Int32)))) + (1 : Int32)))) &&& (6 : Int32)) ||| (2 : Int32))))) (C := RX7) (T := TX7) (N := 30) hx hb hts iX7_moveOne_X7 hown hK hP 0 rfl rfl 23 (by decide) (hts _ qX7_moveOne_7) (fun _ h9 => h9) rfl dX7_moveOne_101 ?_
      refine lv_bipush (v := 8) hx hb dX7_moveOne_104 (by decide) ?_
      refine lv_iand hx hb dX7_moveOne_106 ?_
      refine lv_if_eq (tgt := 121) hx hb dX7_moveOne_107 (by decide) (fun c5 => ?_) (fun c5 => ?_)
      · skip
        exact W.vret hx hb hr (fun t ht hW => ⟨⟨(sMW_st (sMW_mov (sMW_adr (f_X7_set u (gMW_adr u) ((gMW_d u) (((gMW_frm u) + (gMW_mov u)) : Int32).toNatClampNeg)) (((gMW_adr (f_X7_set u (gMW_adr u) ((gMW_d u) (((gMW_frm u) + (gMW_mov u)) : Int32).toNatClampNeg))) + (1 : Int32)) &&& (65535 : Int32))) ((gMW_mov (sMW_adr (f_X7_set u (gMW_adr u) ((gMW_d u) (((gMW_frm u) + (gMW_mov u)) : Int32).toNatClampNeg)) (((gMW_adr (f_X7_set u (gMW_adr u) ((gMW_d u) (((gMW_frm u) + (gMW_mov u)) : Int32).toNatClampNeg))) + (1 : Int32)) &&& (65535 : Int32)))) + (1 : Int32))) (((gMW_st (sMW_mov (sMW_adr (f_X7_set u (gMW_adr u) ((gMW_d u) (((gMW_frm u) + (gMW_mov u)) : Int32).toNatClampNeg)) (((gMW_adr (f_X7_set u (gMW_adr u) ((gMW_d u) (((gMW_frm u) + (gMW_mov u)) : Int32).toNatClampNeg))) + (1 : Int32)) &&& (65535 : Int32))) ((gMW_mov (sMW_adr (f_X7_set u (gMW_adr u) ((gMW_d u) (((gMW_frm u) + (gMW_mov u)) : Int32).toNatClampNeg)) (((gMW_adr (f_X7_set u (gMW_adr u) ((gMW_d u) (((gMW_frm u) + (gMW_mov u)) : Int32).toNatClampNeg))) + (1 : Int32)) &&& (65535 : Int32)))) + (1 : Int32)))) &&& (6 : Int32)) ||| (2 : Int32))), rfl, (by simp only [f_X7_moveOne, if_pos c1, if_pos c4, if_pos c5]), by rw [ht]; exact hP, va_K.moved hW.alike hK, hD⟩, hS.F ht⟩) hS.2.2 dX7_moveOne_121
      · skip
        refine lv_aload_n hx hb dX7_moveOne_110 rfl (lv_at hl 0 rfl) ?_
        refine lv_aload_n hx hb dX7_moveOne_111 rfl (lv_at hl 0 rfl) ?_
        refine va_get (D := (dC, dI)) (ci := 7) (v := .int (gMW_call (sMW_st (sMW_mov (sMW_adr (f_X7_set u (gMW_adr u) ((gMW_d u) (((gMW_frm u) + (gMW_mov u)) : Int32).toNatClampNeg)) (((gMW_adr (f_X7_set u (gMW_adr u) ((gMW_d u) (((gMW_frm u) + (gMW_mov u)) : Int32).toNatClampNeg))) + (1 : Int32)) &&& (65535 : Int32))) ((gMW_mov (sMW_adr (f_X7_set u (gMW_adr u) ((gMW_d u) (((gMW_frm u) + (gMW_mov u)) : Int32).toNatClampNeg)) (((gMW_adr (f_X7_set u (gMW_adr u) ((gMW_d u) (((gMW_frm u) + (gMW_mov u)) : Int32).toNatClampNeg))) + (1 : Int32)) &&& (65535 : Int32)))) + (1 : Int32))) (((gMW_st (sMW_mov (sMW_adr (f_X7_set u (gMW_adr u) ((gMW_d u) (((gMW_frm u) + (gMW_mov u)) : Int32).toNatClampNeg)) (((gMW_adr (f_X7_set u (gMW_adr u) ((gMW_d u) (((gMW_frm u) + (gMW_mov u)) : Int32).toNatClampNeg))) + (1 : Int32)) &&& (65535 : Int32))) ((gMW_mov (sMW_adr (f_X7_set u (gMW_adr u) ((gMW_d u) (((gMW_frm u) + (gMW_mov u)) : Int32).toNatClampNeg)) (((gMW_adr (f_X7_set u (gMW_adr u) ((gMW_d u) (((gMW_frm u) + (gMW_mov u)) : Int32).toNatClampNeg))) + (1 : Int32)) &&& (65535 : Int32)))) + (1 : Int32)))) &&& (6 : Int32)) ||| (2 : Int32))))) (C := RX7) (T := TX7) (N := 30) hx hb hts iX7_moveOne_X7 hown hK hP 0 rfl rfl 23 (by decide) (hts _ qX7_moveOne_7) (fun _ h9 => h9) rfl dX7_moveOne_112 ?_
        refine lv_bipush (v := 7) hx hb dX7_moveOne_115 (by decide) ?_
        refine lv_iand hx hb dX7_moveOne_117 ?_
        refine va_put (D := (dC, dI)) (ci := 7) (v := .int ((gMW_call (sMW_st (sMW_mov (sMW_adr (f_X7_set u (gMW_adr u) ((gMW_d u) (((gMW_frm u) + (gMW_mov u)) : Int32).toNatClampNeg)) (((gMW_adr (f_X7_set u (gMW_adr u) ((gMW_d u) (((gMW_frm u) + (gMW_mov u)) : Int32).toNatClampNeg))) + (1 : Int32)) &&& (65535 : Int32))) ((gMW_mov (sMW_adr (f_X7_set u (gMW_adr u) ((gMW_d u) (((gMW_frm u) + (gMW_mov u)) : Int32).toNatClampNeg)) (((gMW_adr (f_X7_set u (gMW_adr u) ((gMW_d u) (((gMW_frm u) + (gMW_mov u)) : Int32).toNatClampNeg))) + (1 : Int32)) &&& (65535 : Int32)))) + (1 : Int32))) (((gMW_st (sMW_mov (sMW_adr (f_X7_set u (gMW_adr u) ((gMW_d u) (((gMW_frm u) + (gMW_mov u)) : Int32).toNatClampNeg)) (((gMW_adr (f_X7_set u (gMW_adr u) ((gMW_d u) (((gMW_frm u) + (gMW_mov u)) : Int32).toNatClampNeg))) + (1 : Int32)) &&& (65535 : Int32))) ((gMW_mov (sMW_adr (f_X7_set u (gMW_adr u) ((gMW_d u) (((gMW_frm u) + (gMW_mov u)) : Int32).toNatClampNeg)) (((gMW_adr (f_X7_set u (gMW_adr u) ((gMW_d u) (((gMW_frm u) + (gMW_mov u)) : Int32).toNatClampNeg))) + (1 : Int32)) &&& (65535 : Int32)))) + (1 : Int32)))) &&& (6 : Int32)) ||| (2 : Int32)))) &&& (7 : Int32))) (ty := .int) (C := RX7) (T := TX7) (N := 30) hx hb hts iX7_moveOne_X7 tyX7 tyX7_ok nmX7 hown hK hP hD hS 0 rfl rfl 14 (by decide) (hts _ qX7_moveOne_8) (fun _ h9 => h9) rfl (by decide +kernel) rfl rfl (Nat.le_of_ble_eq_true rfl) dX7_moveOne_118 (fun H locs hP hD hS => ?_)
        obtain ⟨hP, hD⟩ := pM_want hP hD
        exact W.vret hx hb hr (fun t ht hW => ⟨⟨(sMW_want (sMW_st (sMW_mov (sMW_adr (f_X7_set u (gMW_adr u) ((gMW_d u) (((gMW_frm u) + (gMW_mov u)) : Int32).toNatClampNeg)) (((gMW_adr (f_X7_set u (gMW_adr u) ((gMW_d u) (((gMW_frm u) + (gMW_mov u)) : Int32).toNatClampNeg))) + (1 : Int32)) &&& (65535 : Int32))) ((gMW_mov (sMW_adr (f_X7_set u (gMW_adr u) ((gMW_d u) (((gMW_frm u) + (gMW_mov u)) : Int32).toNatClampNeg)) (((gMW_adr (f_X7_set u (gMW_adr u) ((gMW_d u) (((gMW_frm u) + (gMW_mov u)) : Int32).toNatClampNeg))) + (1 : Int32)) &&& (65535 : Int32)))) + (1 : Int32))) (((gMW_st (sMW_mov (sMW_adr (f_X7_set u (gMW_adr u) ((gMW_d u) (((gMW_frm u) + (gMW_mov u)) : Int32).toNatClampNeg)) (((gMW_adr (f_X7_set u (gMW_adr u) ((gMW_d u) (((gMW_frm u) + (gMW_mov u)) : Int32).toNatClampNeg))) + (1 : Int32)) &&& (65535 : Int32))) ((gMW_mov (sMW_adr (f_X7_set u (gMW_adr u) ((gMW_d u) (((gMW_frm u) + (gMW_mov u)) : Int32).toNatClampNeg)) (((gMW_adr (f_X7_set u (gMW_adr u) ((gMW_d u) (((gMW_frm u) + (gMW_mov u)) : Int32).toNatClampNeg))) + (1 : Int32)) &&& (65535 : Int32)))) + (1 : Int32)))) &&& (6 : Int32)) ||| (2 : Int32))) ((gMW_call (sMW_st (sMW_mov (sMW_adr (f_X7_set u (gMW_adr u) ((gMW_d u) (((gMW_frm u) + (gMW_mov u)) : Int32).toNatClampNeg)) (((gMW_adr (f_X7_set u (gMW_adr u) ((gMW_d u) (((gMW_frm u) + (gMW_mov u)) : Int32).toNatClampNeg))) + (1 : Int32)) &&& (65535 : Int32))) ((gMW_mov (sMW_adr (f_X7_set u (gMW_adr u) ((gMW_d u) (((gMW_frm u) + (gMW_mov u)) : Int32).toNatClampNeg)) (((gMW_adr (f_X7_set u (gMW_adr u) ((gMW_d u) (((gMW_frm u) + (gMW_mov u)) : Int32).toNatClampNeg))) + (1 : Int32)) &&& (65535 : Int32)))) + (1 : Int32))) (((gMW_st (sMW_mov (sMW_adr (f_X7_set u (gMW_adr u) ((gMW_d u) (((gMW_frm u) + (gMW_mov u)) : Int32).toNatClampNeg)) (((gMW_adr (f_X7_set u (gMW_adr u) ((gMW_d u) (((gMW_frm u) + (gMW_mov u)) : Int32).toNatClampNeg))) + (1 : Int32)) &&& (65535 : Int32))) ((gMW_mov (sMW_adr (f_X7_set u (gMW_adr u) ((gMW_d u) (((gMW_frm u) + (gMW_mov u)) : Int32).toNatClampNeg)) (((gMW_adr (f_X7_set u (gMW_adr u) ((gMW_d u) (((gMW_frm u) + (gMW_mov u)) : Int32).toNatClampNeg))) + (1 : Int32)) &&& (65535 : Int32)))) + (1 : Int32)))) &&& (6 : Int32)) ||| (2 : Int32)))) &&& (7 : Int32))), rfl, (by simp only [f_X7_moveOne, if_pos c1, if_pos c4, if_neg c5]), by rw [ht]; exact hP, va_K.moved hW.alike hK, hD⟩, hS.F ht⟩) hS.2.2 dX7_moveOne_121

def f_X7_in (u : MW) (a1 : Int32) : Int32 × MW := 
  if a1 = 0 then ((bI (if (gMW_ins u) ≤ 0 then false else true : Bool)), u)
  else if a1 = 1 then ((if (gMW_ins u) ≤ 0 then 0 else ((gMW_inp u) (0 : Int32).toNatClampNeg) : Int32), (sMW_ins (sMW_inp u (shf (gMW_inp u) ((gMW_ins u).toNatClampNeg - 1))) (if (gMW_ins (sMW_inp u (shf (gMW_inp u) ((gMW_ins u).toNatClampNeg - 1)))) ≤ 0 then 0 else ((gMW_ins (sMW_inp u (shf (gMW_inp u) ((gMW_ins u).toNatClampNeg - 1)))) - (1 : Int32)) : Int32)))
  else if a1 = 6 then ((gMW_st u), (sMW_st u ((gMW_st u) &&& 1)))
  else (255, u)
theorem qX7_in_0 : Cond.fieldLink RX7 106 "DiskMachineModel" "state" "I" ∈ wsX7_in := by decide +kernel
theorem qX7_in_1 : Cond.fieldLink RX7 103 "DiskMachineModel" "inputs" "I" ∈ wsX7_in := by decide +kernel
theorem qX7_in_2 : Cond.fieldLink RX7 23 "DiskMachineModel" "input" "[I" ∈ wsX7_in := by decide +kernel
theorem iX7_in_X7 : ∀ w ∈ wsX70, w ∈ wsX7_in := by decide +kernel
set_option maxHeartbeats 4000000 in
set_option maxRecDepth 100000 in
theorem k_X7_in (l : Launch) (dC : Nat → ClassId) (dI : Nat → Nat → Nat) (cI : ClassId) (mO memA dskA rgA inA outA : Nat) (sz : Nat) (u : MW) (a1 : Int32) (hI : ∃ q : Nat, q ≤ 64 ∧ gMW_ins u = nI q) : Met l yX7_in wsX7_in ({ frames := 0, cells := 0, slots := 0, locals := 0 }) (va_Pc [.ref mO, .int a1] (wB dC dI [(cI, .int)] sz (wM cI mO memA dskA rgA inA outA u))) (va_Qi (fun (r : Int32) (u' : MW) => r = (f_X7_in u a1).1 ∧ u' = (f_X7_in u a1).2) (fun u' => wE dC dI [(cI, .int)] (va_A (wM cI mO memA dskA rgA inA outA u) sz) (wM cI mO memA dskA rgA inA outA u')) (va_A (wM cI mO memA dskA rgA inA outA u) sz)) 0 0 (va_A (wM cI mO memA dskA rgA inA outA u) sz) := by
  refine Met.ofW (cc := cX7_in) (maxL := 4) (ret := (some .int)) (by decide) rfl ?_
  intro p e s m args below meth c s₁ B hml hv
  obtain ⟨rfl, hsz, hP, hK, hD0⟩ := hv
  have hx := B.exec
  have hb := B.bytes
  have hr := B.returns
  have hts := atoms_spec (ws := wsX7_in) B.pre
  have hown : s.vm.findClass RX7 = some m.cls := findClass_of_methodNamed B.named
  have hlocks := B.notSynchronized
  subst hsz
  have hD := hD0.self (sz := s.heap.size)
  generalize hAe : va_A (wM cI mO memA dskA rgA inA outA u) s.heap.size = A at hD ⊢
  have hA : ∀ q : Nat, s.heap.size ≤ q → A q := fun q h => by rw [← hAe]; exact Or.inr h
  have hS : va_S A s.heap s.heap [] := va_S.rf
  have hP : va_P (dC, dI) vwCl (wM cI mO memA dskA rgA inA outA u) s.heap := hP
  clear hAe hD0
  have hl := lv_entry ([.ref mO, .int a1]) (n := 4) (Nat.le_of_ble_eq_true rfl)
  rw [lg_entry_eq]
  generalize (lg_sl ([.ref mO, .int a1]) ++ List.replicate (4 - (lg_sl ([.ref mO, .int a1])).length) Slot.unset).toArray = ls at hl ⊢
  have hl : lv_has ls 4 [(0, .ref mO), (1, .int a1)] := hl
  refine jn_H hP hS (fun H locs hP hS => ?_)
  refine lv_iload_n hx hb dX7_in_0 rfl (lv_at hl 1 rfl) ?_
  refine lv_if_ne (tgt := 17) hx hb dX7_in_1 (by decide) (fun c1 => ?_) (fun c1 => ?_)
  · skip
    refine lv_iload_n hx hb dX7_in_17 rfl (lv_at hl 1 rfl) ?_
    refine lv_iconst (v := 1) hx hb dX7_in_18 (by decide) ?_
    refine lv_icmp_ne (tgt := 93) hx hb dX7_in_19 (by decide) (fun c2 => ?_) (fun c2 => ?_)
    · skip
      refine lv_iload_n hx hb dX7_in_93 rfl (lv_at hl 1 rfl) ?_
      refine lv_bipush (v := 6) hx hb dX7_in_94 (by decide) ?_
      refine lv_icmp_ne (tgt := 116) hx hb dX7_in_96 (by decide) (fun c3 => ?_) (fun c3 => ?_)
      · skip
        refine lv_sipush (v := 255) hx hb dX7_in_116 (by decide) ?_
        exact W.iret (v := 255) hx hb hr (fun t ht hW => ⟨⟨255, u, rfl, ⟨(by simp only [f_X7_in, if_neg c1, if_neg c2, if_neg c3]), (by simp only [f_X7_in, if_neg c1, if_neg c2, if_neg c3])⟩, by rw [ht]; exact hP, va_K.moved hW.alike hK, hD⟩, hS.F ht⟩) hS.2.2 dX7_in_119
      · skip
        refine lv_aload_n hx hb dX7_in_99 rfl (lv_at hl 0 rfl) ?_
        refine va_get (D := (dC, dI)) (ci := 7) (v := .int (gMW_st u)) (C := RX7) (T := TX7) (N := 30) hx hb hts iX7_in_X7 hown hK hP 0 rfl rfl 24 (by decide) (hts _ qX7_in_0) (fun _ h9 => h9) rfl dX7_in_100 ?_
        refine lv_istore_n (lv' := [(2, .int (gMW_st u)), (0, .ref mO), (1, .int a1)]) hx hb dX7_in_103 rfl hl (by decide) rfl (fun ls hl => ?_)
        refine lv_aload_n hx hb dX7_in_104 rfl (lv_at hl 1 rfl) ?_
        refine lv_aload_n hx hb dX7_in_105 rfl (lv_at hl 1 rfl) ?_
        refine va_get (D := (dC, dI)) (ci := 7) (v := .int (gMW_st u)) (C := RX7) (T := TX7) (N := 30) hx hb hts iX7_in_X7 hown hK hP 0 rfl rfl 24 (by decide) (hts _ qX7_in_0) (fun _ h9 => h9) rfl dX7_in_106 ?_
        refine lv_iconst (v := 1) hx hb dX7_in_109 (by decide) ?_
        refine lv_iand hx hb dX7_in_110 ?_
        refine va_put (D := (dC, dI)) (ci := 7) (v := .int ((gMW_st u) &&& (1 : Int32))) (ty := .int) (C := RX7) (T := TX7) (N := 30) hx hb hts iX7_in_X7 tyX7 tyX7_ok nmX7 hown hK hP hD hS 0 rfl rfl 24 (by decide) (hts _ qX7_in_0) (fun _ h9 => h9) rfl (by decide +kernel) rfl rfl (Nat.le_of_ble_eq_true rfl) dX7_in_111 (fun H locs hP hD hS => ?_)
        obtain ⟨hP, hD⟩ := pM_st hP hD
        refine lv_iload_n hx hb dX7_in_114 rfl (lv_at hl 0 rfl) ?_
        exact W.iret (v := (gMW_st u)) hx hb hr (fun t ht hW => ⟨⟨(gMW_st u), (sMW_st u ((gMW_st u) &&& (1 : Int32))), rfl, ⟨(by simp only [f_X7_in, if_neg c1, if_neg c2, if_pos c3]), (by simp only [f_X7_in, if_neg c1, if_neg c2, if_pos c3])⟩, by rw [ht]; exact hP, va_K.moved hW.alike hK, hD⟩, hS.F ht⟩) hS.2.2 dX7_in_115
    · skip
      refine lv_aload_n hx hb dX7_in_22 rfl (lv_at hl 0 rfl) ?_
      refine va_get (D := (dC, dI)) (ci := 7) (v := .int (gMW_ins u)) (C := RX7) (T := TX7) (N := 30) hx hb hts iX7_in_X7 hown hK hP 0 rfl rfl 18 (by decide) (hts _ qX7_in_1) (fun _ h9 => h9) rfl dX7_in_23 ?_
      refine jn_i (D := (dC, dI)) (cl := vwCl) (ws := (wM cI mO memA dskA rgA inA outA u)) (A := A) (H0 := s.heap) (nL := 4) 39 (if (gMW_ins u) ≤ (0 : Int32) then 0 else ((gMW_inp u) (0 : Int32).toNatClampNeg) : Int32) [(0, .ref mO), (1, .int a1)] [] (fun H locs ls hP hS hl => ?_) (fun hJ4 => ?_)
      · skip
        refine lv_topi (fun y5 ey5 => ?_)
        refine lv_istore_n (lv' := [(2, .int y5), (0, .ref mO), (1, .int a1)]) hx hb dX7_in_39 rfl hl (by decide) rfl (fun ls hl => ?_)
        refine lv_iconst (v := 1) hx hb dX7_in_40 (by decide) ?_
        refine lv_istore_n (lv' := [(3, .int 1), (2, .int y5), (0, .ref mO), (1, .int a1)]) hx hb dX7_in_41 rfl hl (by decide) rfl (fun ls hl => ?_)
        refine jn_lp (D := (dC, dI)) (cl := vwCl) (A := A) (H0 := s.heap) (nL := 4) (σ := Nat × Int32) 42 (fun x => [(0, .ref mO), (2, .int y5), (3, .int x.2)]) (fun x => (wM cI mO memA dskA rgA inA outA (sMW_inp u (shf (gMW_inp u) x.1)))) (fun n x => x.1 + n = 65 ∧ x.1 ≤ ((gMW_ins u).toNatClampNeg - 1) ∧ x.1 ≤ 64 ∧ x.2 = nI (x.1 + 1)) (fun x h => ?_) (fun n ih x H locs ls hI hP hD hS hl => ?_) (fun hloop => ?_)
        · obtain ⟨j, i⟩ := x
          try dsimp only at h
          obtain ⟨h1, h2, h3, _⟩ := h
          omega
        · obtain ⟨j, i⟩ := x
          try dsimp only at hI
          obtain ⟨hn, hj, hj6, hi⟩ := hI
          have hP : va_P (dC, dI) vwCl (wM cI mO memA dskA rgA inA outA (sMW_inp u (shf (gMW_inp u) j))) H := hP
          have hD : va_D A (wM cI mO memA dskA rgA inA outA (sMW_inp u (shf (gMW_inp u) j))) := hD
          have hl : lv_has ls 4 [(0, .ref mO), (2, .int y5), (3, .int i)] := hl
          refine lv_iload_n hx hb dX7_in_42 rfl (lv_at hl 2 rfl) ?_
          refine lv_aload_n hx hb dX7_in_43 rfl (lv_at hl 0 rfl) ?_
          refine va_get (D := (dC, dI)) (ci := 7) (v := .int (gMW_ins (sMW_inp u (shf (gMW_inp u) j)))) (C := RX7) (T := TX7) (N := 30) hx hb hts iX7_in_X7 hown hK hP 0 rfl rfl 18 (by decide) (hts _ qX7_in_1) (fun _ h9 => h9) rfl dX7_in_44 ?_
          refine lv_icmp_ge (tgt := 70) hx hb dX7_in_47 (by decide) (fun c6 => ?_) (fun c6 => ?_)
          · skip
            obtain rfl : j = ((gMW_ins u).toNatClampNeg - 1) := by obtain ⟨q9, hq9, e9⟩ := hI; rw [e9, nI_clamp (by omega)]; rw [e9, nI_clamp (by omega)] at hj; have c9 : gMW_ins u ≤ i := c6; rw [hi, e9] at c9; have z9 := (nI_leI (by omega) (by omega)).mp c9; omega
            refine lv_aload_n hx hb dX7_in_70 rfl (lv_at hl 0 rfl) ?_
            refine lv_aload_n hx hb dX7_in_71 rfl (lv_at hl 0 rfl) ?_
            refine va_get (D := (dC, dI)) (ci := 7) (v := .int (gMW_ins (sMW_inp u (shf (gMW_inp u) ((gMW_ins u).toNatClampNeg - 1))))) (C := RX7) (T := TX7) (N := 30) hx hb hts iX7_in_X7 hown hK hP 0 rfl rfl 18 (by decide) (hts _ qX7_in_1) (fun _ h9 => h9) rfl dX7_in_72 ?_
            refine jn_i (D := (dC, dI)) (cl := vwCl) (ws := (wM cI mO memA dskA rgA inA outA (sMW_inp u (shf (gMW_inp u) ((gMW_ins u).toNatClampNeg - 1))))) (A := A) (H0 := s.heap) (nL := 4) 88 (if (gMW_ins (sMW_inp u (shf (gMW_inp u) ((gMW_ins u).toNatClampNeg - 1)))) ≤ (0 : Int32) then 0 else ((gMW_ins (sMW_inp u (shf (gMW_inp u) ((gMW_ins u).toNatClampNeg - 1)))) - (1 : Int32)) : Int32) [(0, .ref mO), (2, .int y5), (3, .int i)] [.ref mO] (fun H locs ls hP hS hl => ?_) (fun hJ7 => ?_)
            · skip
              refine va_put (D := (dC, dI)) (ci := 7) (v := .int (if (gMW_ins (sMW_inp u (shf (gMW_inp u) ((gMW_ins u).toNatClampNeg - 1)))) ≤ (0 : Int32) then 0 else ((gMW_ins (sMW_inp u (shf (gMW_inp u) ((gMW_ins u).toNatClampNeg - 1)))) - (1 : Int32)) : Int32)) (ty := .int) (C := RX7) (T := TX7) (N := 30) hx hb hts iX7_in_X7 tyX7 tyX7_ok nmX7 hown hK hP hD hS 0 rfl rfl 18 (by decide) (hts _ qX7_in_1) (fun _ h9 => h9) rfl (by decide +kernel) rfl rfl (Nat.le_of_ble_eq_true rfl) dX7_in_88 (fun H locs hP hD hS => ?_)
              obtain ⟨hP, hD⟩ := pM_ins hP hD
              refine lv_iload_n hx hb dX7_in_91 rfl (lv_at hl 1 rfl) ?_
              exact W.iret (v := y5) hx hb hr (fun t ht hW => ⟨⟨y5, (sMW_ins (sMW_inp u (shf (gMW_inp u) ((gMW_ins u).toNatClampNeg - 1))) (if (gMW_ins (sMW_inp u (shf (gMW_inp u) ((gMW_ins u).toNatClampNeg - 1)))) ≤ (0 : Int32) then 0 else ((gMW_ins (sMW_inp u (shf (gMW_inp u) ((gMW_ins u).toNatClampNeg - 1)))) - (1 : Int32)) : Int32)), rfl, ⟨(by subst ey5; simp only [f_X7_in, if_neg c1, if_pos c2, if_pos c6]), (by subst ey5; simp only [f_X7_in, if_neg c1, if_pos c2, if_pos c6])⟩, by rw [ht]; exact hP, va_K.moved hW.alike hK, hD⟩, hS.F ht⟩) hS.2.2 dX7_in_92
            · skip
              refine lv_if_le (tgt := 87) hx hb dX7_in_75 (by decide) (fun c8 => ?_) (fun c8 => ?_)
              · skip
                refine lv_iconst (v := 0) hx hb dX7_in_87 (by decide) ?_
                exact hJ7 0 _ _ _ (by simp only [if_pos c8]) hP hS (lv_sub hl [0, 1, 2] rfl)
              · skip
                refine lv_aload_n hx hb dX7_in_78 rfl (lv_at hl 0 rfl) ?_
                refine va_get (D := (dC, dI)) (ci := 7) (v := .int (gMW_ins (sMW_inp u (shf (gMW_inp u) ((gMW_ins u).toNatClampNeg - 1))))) (C := RX7) (T := TX7) (N := 30) hx hb hts iX7_in_X7 hown hK hP 0 rfl rfl 18 (by decide) (hts _ qX7_in_1) (fun _ h9 => h9) rfl dX7_in_79 ?_
                refine lv_iconst (v := 1) hx hb dX7_in_82 (by decide) ?_
                refine lv_isub hx hb dX7_in_83 ?_
                refine lv_goto (tgt := 88) hx hb dX7_in_84 (by decide) ?_
                exact hJ7 ((gMW_ins (sMW_inp u (shf (gMW_inp u) ((gMW_ins u).toNatClampNeg - 1)))) - (1 : Int32)) _ _ _ (by simp only [if_neg c8]) hP hS (lv_sub hl [0, 1, 2] rfl)
          · skip
            refine lv_aload_n hx hb dX7_in_50 rfl (lv_at hl 0 rfl) ?_
            refine va_get (D := (dC, dI)) (ci := 7) (v := .ref inA) (C := RX7) (T := TX7) (N := 30) hx hb hts iX7_in_X7 hown hK hP 0 rfl rfl 17 (by decide) (hts _ qX7_in_2) (fun _ h9 => h9) rfl dX7_in_51 ?_
            refine lv_iload_n hx hb dX7_in_54 rfl (lv_at hl 2 rfl) ?_
            refine lv_iconst (v := 1) hx hb dX7_in_55 (by decide) ?_
            refine lv_isub hx hb dX7_in_56 ?_
            refine lv_aload_n hx hb dX7_in_57 rfl (lv_at hl 0 rfl) ?_
            refine va_get (D := (dC, dI)) (ci := 7) (v := .ref inA) (C := RX7) (T := TX7) (N := 30) hx hb hts iX7_in_X7 hown hK hP 0 rfl rfl 17 (by decide) (hts _ qX7_in_2) (fun _ h9 => h9) rfl dX7_in_58 ?_
            refine lv_iload_n hx hb dX7_in_61 rfl (lv_at hl 2 rfl) ?_
            refine va_iald (f := (gMW_inp (sMW_inp u (shf (gMW_inp u) j)))) hx hb hK hP 4 0 rfl rfl (by obtain ⟨q9, hq9, e9⟩ := hI; have c9 : ¬ gMW_ins u ≤ i := c6; rw [hi, e9] at c9; have z9 := mt (nI_leI (a := q9) (b := j + 1) (by omega) (by omega)).mpr c9; rw [hi]; exact vp_in_nI (show j + 1 < 64 by omega) (by decide)) dX7_in_62 ?_
            refine va_iast (f := (gMW_inp (sMW_inp u (shf (gMW_inp u) j)))) hx hb hK hP hD hS 4 0 rfl rfl (by obtain ⟨q9, hq9, e9⟩ := hI; have c9 : ¬ gMW_ins u ≤ i := c6; rw [hi, e9] at c9; have z9 := mt (nI_leI (a := q9) (b := j + 1) (by omega) (by omega)).mpr c9; rw [hi, nI_pred]; exact vp_in_nI (show j < 64 by omega) (by decide)) dX7_in_63 (fun H locs hP hD hS => ?_)
            obtain ⟨hP, hD⟩ := aM_inA hP hD
            refine lv_iinc (v := (i + (1 : Int32))) (lv' := [(3, .int (i + (1 : Int32))), (0, .ref mO), (2, .int y5)]) hx hb dX7_in_64 hl (k := 2) rfl rfl (by decide) rfl (fun ls hl => ?_)
            refine lv_goto (tgt := 42) hx hb dX7_in_67 (by decide) ?_
            have e1 : (i - 1).toNatClampNeg = j := by rw [hi, nI_pred]; exact nI_clamp (by omega)
            have e2 : i.toNatClampNeg = j + 1 := by rw [hi]; exact nI_clamp (by omega)
            rw [e1, e2] at hP hD
            exact ih ((j + 1), (i + (1 : Int32))) _ _ _ (⟨by omega, by obtain ⟨q9, hq9, e9⟩ := hI; have c9 : ¬ gMW_ins u ≤ i := c6; rw [hi, e9] at c9; have z9 := mt (nI_leI (a := q9) (b := j + 1) (by omega) (by omega)).mpr c9; rw [e9, nI_clamp (by omega)]; omega, by obtain ⟨q9, hq9, e9⟩ := hI; have c9 : ¬ gMW_ins u ≤ i := c6; rw [hi, e9] at c9; have z9 := mt (nI_leI (a := q9) (b := j + 1) (by omega) (by omega)).mpr c9; omega, by rw [hi]; exact nI_1 (j + 1)⟩) hP hD hS (lv_sub hl [1, 2, 0] rfl)
        · exact hloop 65 (0, 1) _ _ _ (⟨rfl, Nat.zero_le _, by decide, rfl⟩) hP hD hS (lv_sub hl [2, 1, 0] rfl)
      · skip
        refine lv_if_le (tgt := 38) hx hb dX7_in_26 (by decide) (fun c9 => ?_) (fun c9 => ?_)
        · skip
          refine lv_iconst (v := 0) hx hb dX7_in_38 (by decide) ?_
          exact hJ4 0 _ _ _ (by simp only [if_pos c9]) hP hS (lv_sub hl [0, 1] rfl)
        · skip
          refine lv_aload_n hx hb dX7_in_29 rfl (lv_at hl 0 rfl) ?_
          refine va_get (D := (dC, dI)) (ci := 7) (v := .ref inA) (C := RX7) (T := TX7) (N := 30) hx hb hts iX7_in_X7 hown hK hP 0 rfl rfl 17 (by decide) (hts _ qX7_in_2) (fun _ h9 => h9) rfl dX7_in_30 ?_
          refine lv_iconst (v := 0) hx hb dX7_in_33 (by decide) ?_
          refine va_iald (f := (gMW_inp u)) hx hb hK hP 4 0 rfl rfl (ix_lit (by decide)) dX7_in_34 ?_
          refine lv_goto (tgt := 39) hx hb dX7_in_35 (by decide) ?_
          exact hJ4 ((gMW_inp u) (0 : Int32).toNatClampNeg) _ _ _ (by simp only [if_neg c9]) hP hS (lv_sub hl [0, 1] rfl)
  · skip
    refine lv_aload_n hx hb dX7_in_4 rfl (lv_at hl 0 rfl) ?_
    refine va_get (D := (dC, dI)) (ci := 7) (v := .int (gMW_ins u)) (C := RX7) (T := TX7) (N := 30) hx hb hts iX7_in_X7 hown hK hP 0 rfl rfl 18 (by decide) (hts _ qX7_in_1) (fun _ h9 => h9) rfl dX7_in_5 ?_
    refine jn_b (D := (dC, dI)) (cl := vwCl) (ws := (wM cI mO memA dskA rgA inA outA u)) (A := A) (H0 := s.heap) (nL := 4) 16 (if (gMW_ins u) ≤ (0 : Int32) then false else true : Bool) [(0, .ref mO), (1, .int a1)] [] (fun H locs ls hP hS hl => ?_) (fun hJ10 => ?_)
    · skip
      exact W.iret (v := (bI (if (gMW_ins u) ≤ (0 : Int32) then false else true : Bool))) hx hb hr (fun t ht hW => ⟨⟨(bI (if (gMW_ins u) ≤ (0 : Int32) then false else true : Bool)), u, rfl, ⟨(by simp only [f_X7_in, if_pos c1]), (by simp only [f_X7_in, if_pos c1])⟩, by rw [ht]; exact hP, va_K.moved hW.alike hK, hD⟩, hS.F ht⟩) hS.2.2 dX7_in_16
    · skip
      refine lv_if_le (tgt := 15) hx hb dX7_in_8 (by decide) (fun c11 => ?_) (fun c11 => ?_)
      · skip
        refine lv_iconst (v := 0) hx hb dX7_in_15 (by decide) ?_
        exact hJ10 false _ _ _ (by simp only [if_pos c11]) hP hS (lv_sub hl [0, 1] rfl)
      · skip
        refine lv_iconst (v := 1) hx hb dX7_in_11 (by decide) ?_
        refine lv_goto (tgt := 16) hx hb dX7_in_12 (by decide) ?_
        exact hJ10 true _ _ _ (by simp only [if_neg c11]) hP hS (lv_sub hl [0, 1] rfl)

def f_X7_out (u : MW) (a1 : Int32) (a2 : Int32) : MW := 
  if a1 = (1 : Int32) then (sMW_outs (sMW_out u (upd (gMW_out u) (((gMW_outs u) - (gMW_outs u) / (256 : Int32) * (256 : Int32)) : Int32).toNatClampNeg a2)) ((gMW_outs (sMW_out u (upd (gMW_out u) (((gMW_outs u) - (gMW_outs u) / (256 : Int32) * (256 : Int32)) : Int32).toNatClampNeg a2))) + (1 : Int32)))
  else 
    if a1 = (2 : Int32) then (sMW_sec u a2)
    else 
      if a1 = (3 : Int32) then (sMW_adr u (((gMW_adr u) &&& (65280 : Int32)) ||| a2))
      else 
        if a1 = (4 : Int32) then (sMW_adr u (((gMW_adr u) &&& (255 : Int32)) ||| (a2 <<< ((8 : Int32) &&& 31))))
        else 
          if a1 = (5 : Int32) then (sMW_call u a2)
          else 
            if a1 = (6 : Int32) then 
              if ((gMW_st u) &&& (1 : Int32)) = (0 : Int32) then 
                if a2 = (1 : Int32) then 
                  if (64 : Int32) ≤ (gMW_sec u) then (sMW_st u ((gMW_st u) ||| (4 : Int32)))
                  else (sMW_fresh (sMW_due (sMW_mov (sMW_frm (sMW_cmd (sMW_st u ((gMW_st u) ||| (1 : Int32))) a2) ((64 : Int32) * (gMW_sec (sMW_cmd (sMW_st u ((gMW_st u) ||| (1 : Int32))) a2)))) 0) 0) true)
                else 
                  if a2 = (2 : Int32) then 
                    if (64 : Int32) ≤ (gMW_sec u) then (sMW_st u ((gMW_st u) ||| (4 : Int32)))
                    else (sMW_fresh (sMW_due (sMW_mov (sMW_frm (sMW_cmd (sMW_st u ((gMW_st u) ||| (1 : Int32))) a2) ((64 : Int32) * (gMW_sec (sMW_cmd (sMW_st u ((gMW_st u) ||| (1 : Int32))) a2)))) 0) 0) true)
                  else (sMW_st u ((gMW_st u) ||| (4 : Int32)))
              else (sMW_st u ((gMW_st u) ||| (4 : Int32)))
            else u
theorem qX7_out_0 : Cond.fieldLink RX7 106 "DiskMachineModel" "state" "I" ∈ wsX7_out := by decide +kernel
theorem qX7_out_1 : Cond.fieldLink RX7 112 "DiskMachineModel" "sector" "I" ∈ wsX7_out := by decide +kernel
theorem qX7_out_2 : Cond.fieldLink RX7 122 "DiskMachineModel" "command" "I" ∈ wsX7_out := by decide +kernel
theorem qX7_out_3 : Cond.fieldLink RX7 125 "DiskMachineModel" "from" "I" ∈ wsX7_out := by decide +kernel
theorem qX7_out_4 : Cond.fieldLink RX7 128 "DiskMachineModel" "moved" "I" ∈ wsX7_out := by decide +kernel
theorem qX7_out_5 : Cond.fieldLink RX7 131 "DiskMachineModel" "due" "I" ∈ wsX7_out := by decide +kernel
theorem qX7_out_6 : Cond.fieldLink RX7 134 "DiskMachineModel" "fresh" "Z" ∈ wsX7_out := by decide +kernel
theorem qX7_out_7 : Cond.fieldLink RX7 119 "DiskMachineModel" "call" "I" ∈ wsX7_out := by decide +kernel
theorem qX7_out_8 : Cond.fieldLink RX7 115 "DiskMachineModel" "address" "I" ∈ wsX7_out := by decide +kernel
theorem qX7_out_9 : Cond.constant RX7 118 (65280) ∈ wsX7_out := by decide +kernel
theorem qX7_out_10 : Cond.fieldLink RX7 26 "DiskMachineModel" "output" "[I" ∈ wsX7_out := by decide +kernel
theorem qX7_out_11 : Cond.fieldLink RX7 109 "DiskMachineModel" "outputs" "I" ∈ wsX7_out := by decide +kernel
theorem iX7_out_X7 : ∀ w ∈ wsX70, w ∈ wsX7_out := by decide +kernel
set_option maxHeartbeats 4000000 in
set_option maxRecDepth 100000 in
theorem k_X7_out (l : Launch) (dC : Nat → ClassId) (dI : Nat → Nat → Nat) (cI : ClassId) (mO memA dskA rgA inA outA : Nat) (sz : Nat) (u : MW) (a1 : Int32) (a2 : Int32) (hO : ¬ gMW_outs u < 0) : Met l yX7_out wsX7_out ({ frames := 0, cells := 0, slots := 0, locals := 0 }) (va_Pc [.ref mO, .int a1, .int a2] (wB dC dI [(cI, .int)] sz (wM cI mO memA dskA rgA inA outA u))) (va_Qv (fun u' : MW => u' = (f_X7_out u a1 a2)) (fun u' => wE dC dI [(cI, .int)] (va_A (wM cI mO memA dskA rgA inA outA u) sz) (wM cI mO memA dskA rgA inA outA u')) (va_A (wM cI mO memA dskA rgA inA outA u) sz)) 0 0 (va_A (wM cI mO memA dskA rgA inA outA u) sz) := by
  refine Met.ofW (cc := cX7_out) (maxL := 3) (ret := none) (by decide) rfl ?_
  intro p e s m args below meth c s₁ B hml hv
  obtain ⟨rfl, hsz, hP, hK, hD0⟩ := hv
  have hx := B.exec
  have hb := B.bytes
  have hr := B.returns
  have hts := atoms_spec (ws := wsX7_out) B.pre
  have hown : s.vm.findClass RX7 = some m.cls := findClass_of_methodNamed B.named
  have hlocks := B.notSynchronized
  subst hsz
  have hD := hD0.self (sz := s.heap.size)
  generalize hAe : va_A (wM cI mO memA dskA rgA inA outA u) s.heap.size = A at hD ⊢
  have hA : ∀ q : Nat, s.heap.size ≤ q → A q := fun q h => by rw [← hAe]; exact Or.inr h
  have hS : va_S A s.heap s.heap [] := va_S.rf
  have hP : va_P (dC, dI) vwCl (wM cI mO memA dskA rgA inA outA u) s.heap := hP
  clear hAe hD0
  have hl := lv_entry ([.ref mO, .int a1, .int a2]) (n := 3) (Nat.le_of_ble_eq_true rfl)
  rw [lg_entry_eq]
  generalize (lg_sl ([.ref mO, .int a1, .int a2]) ++ List.replicate (3 - (lg_sl ([.ref mO, .int a1, .int a2])).length) Slot.unset).toArray = ls at hl ⊢
  have hl : lv_has ls 3 [(0, .ref mO), (1, .int a1), (2, .int a2)] := hl
  refine jn_H hP hS (fun H locs hP hS => ?_)
  refine lv_iload_n hx hb dX7_out_0 rfl (lv_at hl 1 rfl) ?_
  refine lv_iconst (v := 1) hx hb dX7_out_1 (by decide) ?_
  refine lv_icmp_ne (tgt := 32) hx hb dX7_out_2 (by decide) (fun c1 => ?_) (fun c1 => ?_)
  · skip
    refine lv_iload_n hx hb dX7_out_32 rfl (lv_at hl 1 rfl) ?_
    refine lv_iconst (v := 2) hx hb dX7_out_33 (by decide) ?_
    refine lv_icmp_ne (tgt := 45) hx hb dX7_out_34 (by decide) (fun c2 => ?_) (fun c2 => ?_)
    · skip
      refine lv_iload_n hx hb dX7_out_45 rfl (lv_at hl 1 rfl) ?_
      refine lv_iconst (v := 3) hx hb dX7_out_46 (by decide) ?_
      refine lv_icmp_ne (tgt := 66) hx hb dX7_out_47 (by decide) (fun c3 => ?_) (fun c3 => ?_)
      · skip
        refine lv_iload_n hx hb dX7_out_66 rfl (lv_at hl 1 rfl) ?_
        refine lv_iconst (v := 4) hx hb dX7_out_67 (by decide) ?_
        refine lv_icmp_ne (tgt := 91) hx hb dX7_out_68 (by decide) (fun c4 => ?_) (fun c4 => ?_)
        · skip
          refine lv_iload_n hx hb dX7_out_91 rfl (lv_at hl 1 rfl) ?_
          refine lv_iconst (v := 5) hx hb dX7_out_92 (by decide) ?_
          refine lv_icmp_ne (tgt := 104) hx hb dX7_out_93 (by decide) (fun c5 => ?_) (fun c5 => ?_)
          · skip
            refine lv_iload_n hx hb dX7_out_104 rfl (lv_at hl 1 rfl) ?_
            refine lv_bipush (v := 6) hx hb dX7_out_105 (by decide) ?_
            refine lv_icmp_ne (tgt := 192) hx hb dX7_out_107 (by decide) (fun c6 => ?_) (fun c6 => ?_)
            · skip
              exact W.vret hx hb hr (fun t ht hW => ⟨⟨u, rfl, (by simp only [f_X7_out, if_neg c1, if_neg c2, if_neg c3, if_neg c4, if_neg c5, if_neg c6]), by rw [ht]; exact hP, va_K.moved hW.alike hK, hD⟩, hS.F ht⟩) hS.2.2 dX7_out_192
            · skip
              refine lv_aload_n hx hb dX7_out_110 rfl (lv_at hl 0 rfl) ?_
              refine va_get (D := (dC, dI)) (ci := 7) (v := .int (gMW_st u)) (C := RX7) (T := TX7) (N := 30) hx hb hts iX7_out_X7 hown hK hP 0 rfl rfl 24 (by decide) (hts _ qX7_out_0) (fun _ h9 => h9) rfl dX7_out_111 ?_
              refine lv_iconst (v := 1) hx hb dX7_out_114 (by decide) ?_
              refine lv_iand hx hb dX7_out_115 ?_
              refine lv_if_ne (tgt := 182) hx hb dX7_out_116 (by decide) (fun c7 => ?_) (fun c7 => ?_)
              · skip
                refine lv_aload_n hx hb dX7_out_182 rfl (lv_at hl 0 rfl) ?_
                refine lv_aload_n hx hb dX7_out_183 rfl (lv_at hl 0 rfl) ?_
                refine va_get (D := (dC, dI)) (ci := 7) (v := .int (gMW_st u)) (C := RX7) (T := TX7) (N := 30) hx hb hts iX7_out_X7 hown hK hP 0 rfl rfl 24 (by decide) (hts _ qX7_out_0) (fun _ h9 => h9) rfl dX7_out_184 ?_
                refine lv_iconst (v := 4) hx hb dX7_out_187 (by decide) ?_
                refine lv_ior hx hb dX7_out_188 ?_
                refine va_put (D := (dC, dI)) (ci := 7) (v := .int ((gMW_st u) ||| (4 : Int32))) (ty := .int) (C := RX7) (T := TX7) (N := 30) hx hb hts iX7_out_X7 tyX7 tyX7_ok nmX7 hown hK hP hD hS 0 rfl rfl 24 (by decide) (hts _ qX7_out_0) (fun _ h9 => h9) rfl (by decide +kernel) rfl rfl (Nat.le_of_ble_eq_true rfl) dX7_out_189 (fun H locs hP hD hS => ?_)
                obtain ⟨hP, hD⟩ := pM_st hP hD
                exact W.vret hx hb hr (fun t ht hW => ⟨⟨(sMW_st u ((gMW_st u) ||| (4 : Int32))), rfl, (by simp only [f_X7_out, if_neg c1, if_neg c2, if_neg c3, if_neg c4, if_neg c5, if_pos c6, if_neg c7]), by rw [ht]; exact hP, va_K.moved hW.alike hK, hD⟩, hS.F ht⟩) hS.2.2 dX7_out_192
              · skip
                refine lv_iload_n hx hb dX7_out_119 rfl (lv_at hl 2 rfl) ?_
                refine lv_iconst (v := 1) hx hb dX7_out_120 (by decide) ?_
                refine lv_icmp_eq (tgt := 129) hx hb dX7_out_121 (by decide) (fun c8 => ?_) (fun c8 => ?_)
                · skip
                  refine lv_aload_n hx hb dX7_out_129 rfl (lv_at hl 0 rfl) ?_
                  refine va_get (D := (dC, dI)) (ci := 7) (v := .int (gMW_sec u)) (C := RX7) (T := TX7) (N := 30) hx hb hts iX7_out_X7 hown hK hP 0 rfl rfl 21 (by decide) (hts _ qX7_out_1) (fun _ h9 => h9) rfl dX7_out_130 ?_
                  refine lv_bipush (v := 64) hx hb dX7_out_133 (by decide) ?_
                  refine lv_icmp_ge (tgt := 182) hx hb dX7_out_135 (by decide) (fun c9 => ?_) (fun c9 => ?_)
                  · skip
                    refine lv_aload_n hx hb dX7_out_182 rfl (lv_at hl 0 rfl) ?_
                    refine lv_aload_n hx hb dX7_out_183 rfl (lv_at hl 0 rfl) ?_
                    refine va_get (D := (dC, dI)) (ci := 7) (v := .int (gMW_st u)) (C := RX7) (T := TX7) (N := 30) hx hb hts iX7_out_X7 hown hK hP 0 rfl rfl 24 (by decide) (hts _ qX7_out_0) (fun _ h9 => h9) rfl dX7_out_184 ?_
                    refine lv_iconst (v := 4) hx hb dX7_out_187 (by decide) ?_
                    refine lv_ior hx hb dX7_out_188 ?_
                    refine va_put (D := (dC, dI)) (ci := 7) (v := .int ((gMW_st u) ||| (4 : Int32))) (ty := .int) (C := RX7) (T := TX7) (N := 30) hx hb hts iX7_out_X7 tyX7 tyX7_ok nmX7 hown hK hP hD hS 0 rfl rfl 24 (by decide) (hts _ qX7_out_0) (fun _ h9 => h9) rfl (by decide +kernel) rfl rfl (Nat.le_of_ble_eq_true rfl) dX7_out_189 (fun H locs hP hD hS => ?_)
                    obtain ⟨hP, hD⟩ := pM_st hP hD
                    exact W.vret hx hb hr (fun t ht hW => ⟨⟨(sMW_st u ((gMW_st u) ||| (4 : Int32))), rfl, (by simp only [f_X7_out, if_neg c1, if_neg c2, if_neg c3, if_neg c4, if_neg c5, if_pos c6, if_pos c7, if_pos c8, if_pos c9]), by rw [ht]; exact hP, va_K.moved hW.alike hK, hD⟩, hS.F ht⟩) hS.2.2 dX7_out_192
                  · skip
                    refine lv_aload_n hx hb dX7_out_138 rfl (lv_at hl 0 rfl) ?_
                    refine lv_aload_n hx hb dX7_out_139 rfl (lv_at hl 0 rfl) ?_
                    refine va_get (D := (dC, dI)) (ci := 7) (v := .int (gMW_st u)) (C := RX7) (T := TX7) (N := 30) hx hb hts iX7_out_X7 hown hK hP 0 rfl rfl 24 (by decide) (hts _ qX7_out_0) (fun _ h9 => h9) rfl dX7_out_140 ?_
                    refine lv_iconst (v := 1) hx hb dX7_out_143 (by decide) ?_
                    refine lv_ior hx hb dX7_out_144 ?_
                    refine va_put (D := (dC, dI)) (ci := 7) (v := .int ((gMW_st u) ||| (1 : Int32))) (ty := .int) (C := RX7) (T := TX7) (N := 30) hx hb hts iX7_out_X7 tyX7 tyX7_ok nmX7 hown hK hP hD hS 0 rfl rfl 24 (by decide) (hts _ qX7_out_0) (fun _ h9 => h9) rfl (by decide +kernel) rfl rfl (Nat.le_of_ble_eq_true rfl) dX7_out_145 (fun H locs hP hD hS => ?_)
                    obtain ⟨hP, hD⟩ := pM_st hP hD
                    refine lv_aload_n hx hb dX7_out_148 rfl (lv_at hl 0 rfl) ?_
                    refine lv_iload_n hx hb dX7_out_149 rfl (lv_at hl 2 rfl) ?_
                    refine va_put (D := (dC, dI)) (ci := 7) (v := .int a2) (ty := .int) (C := RX7) (T := TX7) (N := 30) hx hb hts iX7_out_X7 tyX7 tyX7_ok nmX7 hown hK hP hD hS 0 rfl rfl 25 (by decide) (hts _ qX7_out_2) (fun _ h9 => h9) rfl (by decide +kernel) rfl rfl (Nat.le_of_ble_eq_true rfl) dX7_out_150 (fun H locs hP hD hS => ?_)
                    obtain ⟨hP, hD⟩ := pM_cmd hP hD
                    refine lv_aload_n hx hb dX7_out_153 rfl (lv_at hl 0 rfl) ?_
                    refine lv_bipush (v := 64) hx hb dX7_out_154 (by decide) ?_
                    refine lv_aload_n hx hb dX7_out_156 rfl (lv_at hl 0 rfl) ?_
                    refine va_get (D := (dC, dI)) (ci := 7) (v := .int (gMW_sec (sMW_cmd (sMW_st u ((gMW_st u) ||| (1 : Int32))) a2))) (C := RX7) (T := TX7) (N := 30) hx hb hts iX7_out_X7 hown hK hP 0 rfl rfl 21 (by decide) (hts _ qX7_out_1) (fun _ h9 => h9) rfl dX7_out_157 ?_
                    refine lv_imul hx hb dX7_out_160 ?_
                    refine va_put (D := (dC, dI)) (ci := 7) (v := .int ((64 : Int32) * (gMW_sec (sMW_cmd (sMW_st u ((gMW_st u) ||| (1 : Int32))) a2)))) (ty := .int) (C := RX7) (T := TX7) (N := 30) hx hb hts iX7_out_X7 tyX7 tyX7_ok nmX7 hown hK hP hD hS 0 rfl rfl 26 (by decide) (hts _ qX7_out_3) (fun _ h9 => h9) rfl (by decide +kernel) rfl rfl (Nat.le_of_ble_eq_true rfl) dX7_out_161 (fun H locs hP hD hS => ?_)
                    obtain ⟨hP, hD⟩ := pM_frm hP hD
                    refine lv_aload_n hx hb dX7_out_164 rfl (lv_at hl 0 rfl) ?_
                    refine lv_iconst (v := 0) hx hb dX7_out_165 (by decide) ?_
                    refine va_put (D := (dC, dI)) (ci := 7) (v := .int 0) (ty := .int) (C := RX7) (T := TX7) (N := 30) hx hb hts iX7_out_X7 tyX7 tyX7_ok nmX7 hown hK hP hD hS 0 rfl rfl 27 (by decide) (hts _ qX7_out_4) (fun _ h9 => h9) rfl (by decide +kernel) rfl rfl (Nat.le_of_ble_eq_true rfl) dX7_out_166 (fun H locs hP hD hS => ?_)
                    obtain ⟨hP, hD⟩ := pM_mov hP hD
                    refine lv_aload_n hx hb dX7_out_169 rfl (lv_at hl 0 rfl) ?_
                    refine lv_iconst (v := 0) hx hb dX7_out_170 (by decide) ?_
                    refine va_put (D := (dC, dI)) (ci := 7) (v := .int 0) (ty := .int) (C := RX7) (T := TX7) (N := 30) hx hb hts iX7_out_X7 tyX7 tyX7_ok nmX7 hown hK hP hD hS 0 rfl rfl 28 (by decide) (hts _ qX7_out_5) (fun _ h9 => h9) rfl (by decide +kernel) rfl rfl (Nat.le_of_ble_eq_true rfl) dX7_out_171 (fun H locs hP hD hS => ?_)
                    obtain ⟨hP, hD⟩ := pM_due hP hD
                    refine lv_aload_n hx hb dX7_out_174 rfl (lv_at hl 0 rfl) ?_
                    refine lv_iconst (v := 1) hx hb dX7_out_175 (by decide) ?_
                    refine va_put (D := (dC, dI)) (ci := 7) (v := .int (bI true)) (ty := .boolean) (C := RX7) (T := TX7) (N := 30) hx hb hts iX7_out_X7 tyX7 tyX7_ok nmX7 hown hK hP hD hS 0 rfl rfl 29 (by decide) (hts _ qX7_out_6) (fun _ h9 => h9) rfl (by decide +kernel) (bI_nar true) (bI_fit true) (Nat.le_of_ble_eq_true rfl) dX7_out_176 (fun H locs hP hD hS => ?_)
                    obtain ⟨hP, hD⟩ := pM_fresh hP hD
                    refine lv_goto (tgt := 192) hx hb dX7_out_179 (by decide) ?_
                    exact W.vret hx hb hr (fun t ht hW => ⟨⟨(sMW_fresh (sMW_due (sMW_mov (sMW_frm (sMW_cmd (sMW_st u ((gMW_st u) ||| (1 : Int32))) a2) ((64 : Int32) * (gMW_sec (sMW_cmd (sMW_st u ((gMW_st u) ||| (1 : Int32))) a2)))) 0) 0) true), rfl, (by simp only [f_X7_out, if_neg c1, if_neg c2, if_neg c3, if_neg c4, if_neg c5, if_pos c6, if_pos c7, if_pos c8, if_neg c9]), by rw [ht]; exact hP, va_K.moved hW.alike hK, hD⟩, hS.F ht⟩) hS.2.2 dX7_out_192
                · skip
                  refine lv_iload_n hx hb dX7_out_124 rfl (lv_at hl 2 rfl) ?_
                  refine lv_iconst (v := 2) hx hb dX7_out_125 (by decide) ?_
                  refine lv_icmp_ne (tgt := 182) hx hb dX7_out_126 (by decide) (fun c10 => ?_) (fun c10 => ?_)
                  · skip
                    refine lv_aload_n hx hb dX7_out_182 rfl (lv_at hl 0 rfl) ?_
                    refine lv_aload_n hx hb dX7_out_183 rfl (lv_at hl 0 rfl) ?_
                    refine va_get (D := (dC, dI)) (ci := 7) (v := .int (gMW_st u)) (C := RX7) (T := TX7) (N := 30) hx hb hts iX7_out_X7 hown hK hP 0 rfl rfl 24 (by decide) (hts _ qX7_out_0) (fun _ h9 => h9) rfl dX7_out_184 ?_
                    refine lv_iconst (v := 4) hx hb dX7_out_187 (by decide) ?_
                    refine lv_ior hx hb dX7_out_188 ?_
                    refine va_put (D := (dC, dI)) (ci := 7) (v := .int ((gMW_st u) ||| (4 : Int32))) (ty := .int) (C := RX7) (T := TX7) (N := 30) hx hb hts iX7_out_X7 tyX7 tyX7_ok nmX7 hown hK hP hD hS 0 rfl rfl 24 (by decide) (hts _ qX7_out_0) (fun _ h9 => h9) rfl (by decide +kernel) rfl rfl (Nat.le_of_ble_eq_true rfl) dX7_out_189 (fun H locs hP hD hS => ?_)
                    obtain ⟨hP, hD⟩ := pM_st hP hD
                    exact W.vret hx hb hr (fun t ht hW => ⟨⟨(sMW_st u ((gMW_st u) ||| (4 : Int32))), rfl, (by simp only [f_X7_out, if_neg c1, if_neg c2, if_neg c3, if_neg c4, if_neg c5, if_pos c6, if_pos c7, if_neg c8, if_neg c10]), by rw [ht]; exact hP, va_K.moved hW.alike hK, hD⟩, hS.F ht⟩) hS.2.2 dX7_out_192
                  · skip
                    refine lv_aload_n hx hb dX7_out_129 rfl (lv_at hl 0 rfl) ?_
                    refine va_get (D := (dC, dI)) (ci := 7) (v := .int (gMW_sec u)) (C := RX7) (T := TX7) (N := 30) hx hb hts iX7_out_X7 hown hK hP 0 rfl rfl 21 (by decide) (hts _ qX7_out_1) (fun _ h9 => h9) rfl dX7_out_130 ?_
                    refine lv_bipush (v := 64) hx hb dX7_out_133 (by decide) ?_
                    refine lv_icmp_ge (tgt := 182) hx hb dX7_out_135 (by decide) (fun c11 => ?_) (fun c11 => ?_)
                    · skip
                      refine lv_aload_n hx hb dX7_out_182 rfl (lv_at hl 0 rfl) ?_
                      refine lv_aload_n hx hb dX7_out_183 rfl (lv_at hl 0 rfl) ?_
                      refine va_get (D := (dC, dI)) (ci := 7) (v := .int (gMW_st u)) (C := RX7) (T := TX7) (N := 30) hx hb hts iX7_out_X7 hown hK hP 0 rfl rfl 24 (by decide) (hts _ qX7_out_0) (fun _ h9 => h9) rfl dX7_out_184 ?_
                      refine lv_iconst (v := 4) hx hb dX7_out_187 (by decide) ?_
                      refine lv_ior hx hb dX7_out_188 ?_
                      refine va_put (D := (dC, dI)) (ci := 7) (v := .int ((gMW_st u) ||| (4 : Int32))) (ty := .int) (C := RX7) (T := TX7) (N := 30) hx hb hts iX7_out_X7 tyX7 tyX7_ok nmX7 hown hK hP hD hS 0 rfl rfl 24 (by decide) (hts _ qX7_out_0) (fun _ h9 => h9) rfl (by decide +kernel) rfl rfl (Nat.le_of_ble_eq_true rfl) dX7_out_189 (fun H locs hP hD hS => ?_)
                      obtain ⟨hP, hD⟩ := pM_st hP hD
                      exact W.vret hx hb hr (fun t ht hW => ⟨⟨(sMW_st u ((gMW_st u) ||| (4 : Int32))), rfl, (by simp only [f_X7_out, if_neg c1, if_neg c2, if_neg c3, if_neg c4, if_neg c5, if_pos c6, if_pos c7, if_neg c8, if_pos c10, if_pos c11]), by rw [ht]; exact hP, va_K.moved hW.alike hK, hD⟩, hS.F ht⟩) hS.2.2 dX7_out_192
                    · skip
                      refine lv_aload_n hx hb dX7_out_138 rfl (lv_at hl 0 rfl) ?_
                      refine lv_aload_n hx hb dX7_out_139 rfl (lv_at hl 0 rfl) ?_
                      refine va_get (D := (dC, dI)) (ci := 7) (v := .int (gMW_st u)) (C := RX7) (T := TX7) (N := 30) hx hb hts iX7_out_X7 hown hK hP 0 rfl rfl 24 (by decide) (hts _ qX7_out_0) (fun _ h9 => h9) rfl dX7_out_140 ?_
                      refine lv_iconst (v := 1) hx hb dX7_out_143 (by decide) ?_
                      refine lv_ior hx hb dX7_out_144 ?_
                      refine va_put (D := (dC, dI)) (ci := 7) (v := .int ((gMW_st u) ||| (1 : Int32))) (ty := .int) (C := RX7) (T := TX7) (N := 30) hx hb hts iX7_out_X7 tyX7 tyX7_ok nmX7 hown hK hP hD hS 0 rfl rfl 24 (by decide) (hts _ qX7_out_0) (fun _ h9 => h9) rfl (by decide +kernel) rfl rfl (Nat.le_of_ble_eq_true rfl) dX7_out_145 (fun H locs hP hD hS => ?_)
                      obtain ⟨hP, hD⟩ := pM_st hP hD
                      refine lv_aload_n hx hb dX7_out_148 rfl (lv_at hl 0 rfl) ?_
                      refine lv_iload_n hx hb dX7_out_149 rfl (lv_at hl 2 rfl) ?_
                      refine va_put (D := (dC, dI)) (ci := 7) (v := .int a2) (ty := .int) (C := RX7) (T := TX7) (N := 30) hx hb hts iX7_out_X7 tyX7 tyX7_ok nmX7 hown hK hP hD hS 0 rfl rfl 25 (by decide) (hts _ qX7_out_2) (fun _ h9 => h9) rfl (by decide +kernel) rfl rfl (Nat.le_of_ble_eq_true rfl) dX7_out_150 (fun H locs hP hD hS => ?_)
                      obtain ⟨hP, hD⟩ := pM_cmd hP hD
                      refine lv_aload_n hx hb dX7_out_153 rfl (lv_at hl 0 rfl) ?_
                      refine lv_bipush (v := 64) hx hb dX7_out_154 (by decide) ?_
                      refine lv_aload_n hx hb dX7_out_156 rfl (lv_at hl 0 rfl) ?_
                      refine va_get (D := (dC, dI)) (ci := 7) (v := .int (gMW_sec (sMW_cmd (sMW_st u ((gMW_st u) ||| (1 : Int32))) a2))) (C := RX7) (T := TX7) (N := 30) hx hb hts iX7_out_X7 hown hK hP 0 rfl rfl 21 (by decide) (hts _ qX7_out_1) (fun _ h9 => h9) rfl dX7_out_157 ?_
                      refine lv_imul hx hb dX7_out_160 ?_
                      refine va_put (D := (dC, dI)) (ci := 7) (v := .int ((64 : Int32) * (gMW_sec (sMW_cmd (sMW_st u ((gMW_st u) ||| (1 : Int32))) a2)))) (ty := .int) (C := RX7) (T := TX7) (N := 30) hx hb hts iX7_out_X7 tyX7 tyX7_ok nmX7 hown hK hP hD hS 0 rfl rfl 26 (by decide) (hts _ qX7_out_3) (fun _ h9 => h9) rfl (by decide +kernel) rfl rfl (Nat.le_of_ble_eq_true rfl) dX7_out_161 (fun H locs hP hD hS => ?_)
                      obtain ⟨hP, hD⟩ := pM_frm hP hD
                      refine lv_aload_n hx hb dX7_out_164 rfl (lv_at hl 0 rfl) ?_
                      refine lv_iconst (v := 0) hx hb dX7_out_165 (by decide) ?_
                      refine va_put (D := (dC, dI)) (ci := 7) (v := .int 0) (ty := .int) (C := RX7) (T := TX7) (N := 30) hx hb hts iX7_out_X7 tyX7 tyX7_ok nmX7 hown hK hP hD hS 0 rfl rfl 27 (by decide) (hts _ qX7_out_4) (fun _ h9 => h9) rfl (by decide +kernel) rfl rfl (Nat.le_of_ble_eq_true rfl) dX7_out_166 (fun H locs hP hD hS => ?_)
                      obtain ⟨hP, hD⟩ := pM_mov hP hD
                      refine lv_aload_n hx hb dX7_out_169 rfl (lv_at hl 0 rfl) ?_
                      refine lv_iconst (v := 0) hx hb dX7_out_170 (by decide) ?_
                      refine va_put (D := (dC, dI)) (ci := 7) (v := .int 0) (ty := .int) (C := RX7) (T := TX7) (N := 30) hx hb hts iX7_out_X7 tyX7 tyX7_ok nmX7 hown hK hP hD hS 0 rfl rfl 28 (by decide) (hts _ qX7_out_5) (fun _ h9 => h9) rfl (by decide +kernel) rfl rfl (Nat.le_of_ble_eq_true rfl) dX7_out_171 (fun H locs hP hD hS => ?_)
                      obtain ⟨hP, hD⟩ := pM_due hP hD
                      refine lv_aload_n hx hb dX7_out_174 rfl (lv_at hl 0 rfl) ?_
                      refine lv_iconst (v := 1) hx hb dX7_out_175 (by decide) ?_
                      refine va_put (D := (dC, dI)) (ci := 7) (v := .int (bI true)) (ty := .boolean) (C := RX7) (T := TX7) (N := 30) hx hb hts iX7_out_X7 tyX7 tyX7_ok nmX7 hown hK hP hD hS 0 rfl rfl 29 (by decide) (hts _ qX7_out_6) (fun _ h9 => h9) rfl (by decide +kernel) (bI_nar true) (bI_fit true) (Nat.le_of_ble_eq_true rfl) dX7_out_176 (fun H locs hP hD hS => ?_)
                      obtain ⟨hP, hD⟩ := pM_fresh hP hD
                      refine lv_goto (tgt := 192) hx hb dX7_out_179 (by decide) ?_
                      exact W.vret hx hb hr (fun t ht hW => ⟨⟨(sMW_fresh (sMW_due (sMW_mov (sMW_frm (sMW_cmd (sMW_st u ((gMW_st u) ||| (1 : Int32))) a2) ((64 : Int32) * (gMW_sec (sMW_cmd (sMW_st u ((gMW_st u) ||| (1 : Int32))) a2)))) 0) 0) true), rfl, (by simp only [f_X7_out, if_neg c1, if_neg c2, if_neg c3, if_neg c4, if_neg c5, if_pos c6, if_pos c7, if_neg c8, if_pos c10, if_neg c11]), by rw [ht]; exact hP, va_K.moved hW.alike hK, hD⟩, hS.F ht⟩) hS.2.2 dX7_out_192
          · skip
            refine lv_aload_n hx hb dX7_out_96 rfl (lv_at hl 0 rfl) ?_
            refine lv_iload_n hx hb dX7_out_97 rfl (lv_at hl 2 rfl) ?_
            refine va_put (D := (dC, dI)) (ci := 7) (v := .int a2) (ty := .int) (C := RX7) (T := TX7) (N := 30) hx hb hts iX7_out_X7 tyX7 tyX7_ok nmX7 hown hK hP hD hS 0 rfl rfl 23 (by decide) (hts _ qX7_out_7) (fun _ h9 => h9) rfl (by decide +kernel) rfl rfl (Nat.le_of_ble_eq_true rfl) dX7_out_98 (fun H locs hP hD hS => ?_)
            obtain ⟨hP, hD⟩ := pM_call hP hD
            refine lv_goto (tgt := 192) hx hb dX7_out_101 (by decide) ?_
            exact W.vret hx hb hr (fun t ht hW => ⟨⟨(sMW_call u a2), rfl, (by simp only [f_X7_out, if_neg c1, if_neg c2, if_neg c3, if_neg c4, if_pos c5]), by rw [ht]; exact hP, va_K.moved hW.alike hK, hD⟩, hS.F ht⟩) hS.2.2 dX7_out_192
        · skip
          refine lv_aload_n hx hb dX7_out_71 rfl (lv_at hl 0 rfl) ?_
          refine lv_aload_n hx hb dX7_out_72 rfl (lv_at hl 0 rfl) ?_
          refine va_get (D := (dC, dI)) (ci := 7) (v := .int (gMW_adr u)) (C := RX7) (T := TX7) (N := 30) hx hb hts iX7_out_X7 hown hK hP 0 rfl rfl 22 (by decide) (hts _ qX7_out_8) (fun _ h9 => h9) rfl dX7_out_73 ?_
          refine lv_sipush (v := 255) hx hb dX7_out_76 (by decide) ?_
          refine lv_iand hx hb dX7_out_79 ?_
          refine lv_iload_n hx hb dX7_out_80 rfl (lv_at hl 2 rfl) ?_
          refine lv_bipush (v := 8) hx hb dX7_out_81 (by decide) ?_
          refine lv_ishl hx hb dX7_out_83 ?_
          refine lv_ior hx hb dX7_out_84 ?_
          refine va_put (D := (dC, dI)) (ci := 7) (v := .int (((gMW_adr u) &&& (255 : Int32)) ||| (a2 <<< ((8 : Int32) &&& 31)))) (ty := .int) (C := RX7) (T := TX7) (N := 30) hx hb hts iX7_out_X7 tyX7 tyX7_ok nmX7 hown hK hP hD hS 0 rfl rfl 22 (by decide) (hts _ qX7_out_8) (fun _ h9 => h9) rfl (by decide +kernel) rfl rfl (Nat.le_of_ble_eq_true rfl) dX7_out_85 (fun H locs hP hD hS => ?_)
          obtain ⟨hP, hD⟩ := pM_adr hP hD
          refine lv_goto (tgt := 192) hx hb dX7_out_88 (by decide) ?_
          exact W.vret hx hb hr (fun t ht hW => ⟨⟨(sMW_adr u (((gMW_adr u) &&& (255 : Int32)) ||| (a2 <<< ((8 : Int32) &&& 31)))), rfl, (by simp only [f_X7_out, if_neg c1, if_neg c2, if_neg c3, if_pos c4]), by rw [ht]; exact hP, va_K.moved hW.alike hK, hD⟩, hS.F ht⟩) hS.2.2 dX7_out_192
      · skip
        refine lv_aload_n hx hb dX7_out_50 rfl (lv_at hl 0 rfl) ?_
        refine lv_aload_n hx hb dX7_out_51 rfl (lv_at hl 0 rfl) ?_
        refine va_get (D := (dC, dI)) (ci := 7) (v := .int (gMW_adr u)) (C := RX7) (T := TX7) (N := 30) hx hb hts iX7_out_X7 hown hK hP 0 rfl rfl 22 (by decide) (hts _ qX7_out_8) (fun _ h9 => h9) rfl dX7_out_52 ?_
        refine lv_ldc (v := 65280) hx hb hown (hts _ qX7_out_9) dX7_out_55 ?_
        refine lv_iand hx hb dX7_out_57 ?_
        refine lv_iload_n hx hb dX7_out_58 rfl (lv_at hl 2 rfl) ?_
        refine lv_ior hx hb dX7_out_59 ?_
        refine va_put (D := (dC, dI)) (ci := 7) (v := .int (((gMW_adr u) &&& (65280 : Int32)) ||| a2)) (ty := .int) (C := RX7) (T := TX7) (N := 30) hx hb hts iX7_out_X7 tyX7 tyX7_ok nmX7 hown hK hP hD hS 0 rfl rfl 22 (by decide) (hts _ qX7_out_8) (fun _ h9 => h9) rfl (by decide +kernel) rfl rfl (Nat.le_of_ble_eq_true rfl) dX7_out_60 (fun H locs hP hD hS => ?_)
        obtain ⟨hP, hD⟩ := pM_adr hP hD
        refine lv_goto (tgt := 192) hx hb dX7_out_63 (by decide) ?_
        exact W.vret hx hb hr (fun t ht hW => ⟨⟨(sMW_adr u (((gMW_adr u) &&& (65280 : Int32)) ||| a2)), rfl, (by simp only [f_X7_out, if_neg c1, if_neg c2, if_pos c3]), by rw [ht]; exact hP, va_K.moved hW.alike hK, hD⟩, hS.F ht⟩) hS.2.2 dX7_out_192
    · skip
      refine lv_aload_n hx hb dX7_out_37 rfl (lv_at hl 0 rfl) ?_
      refine lv_iload_n hx hb dX7_out_38 rfl (lv_at hl 2 rfl) ?_
      refine va_put (D := (dC, dI)) (ci := 7) (v := .int a2) (ty := .int) (C := RX7) (T := TX7) (N := 30) hx hb hts iX7_out_X7 tyX7 tyX7_ok nmX7 hown hK hP hD hS 0 rfl rfl 21 (by decide) (hts _ qX7_out_1) (fun _ h9 => h9) rfl (by decide +kernel) rfl rfl (Nat.le_of_ble_eq_true rfl) dX7_out_39 (fun H locs hP hD hS => ?_)
      obtain ⟨hP, hD⟩ := pM_sec hP hD
      refine lv_goto (tgt := 192) hx hb dX7_out_42 (by decide) ?_
      exact W.vret hx hb hr (fun t ht hW => ⟨⟨(sMW_sec u a2), rfl, (by simp only [f_X7_out, if_neg c1, if_pos c2]), by rw [ht]; exact hP, va_K.moved hW.alike hK, hD⟩, hS.F ht⟩) hS.2.2 dX7_out_192
  · skip
    refine lv_aload_n hx hb dX7_out_5 rfl (lv_at hl 0 rfl) ?_
    refine va_get (D := (dC, dI)) (ci := 7) (v := .ref outA) (C := RX7) (T := TX7) (N := 30) hx hb hts iX7_out_X7 hown hK hP 0 rfl rfl 19 (by decide) (hts _ qX7_out_10) (fun _ h9 => h9) rfl dX7_out_6 ?_
    refine lv_aload_n hx hb dX7_out_9 rfl (lv_at hl 0 rfl) ?_
    refine va_get (D := (dC, dI)) (ci := 7) (v := .int (gMW_outs u)) (C := RX7) (T := TX7) (N := 30) hx hb hts iX7_out_X7 hown hK hP 0 rfl rfl 20 (by decide) (hts _ qX7_out_11) (fun _ h9 => h9) rfl dX7_out_10 ?_
    refine lv_sipush (v := 256) hx hb dX7_out_13 (by decide) ?_
    refine lv_irem hx hb dX7_out_16 (by decide) ?_
    refine lv_iload_n hx hb dX7_out_17 rfl (lv_at hl 2 rfl) ?_
    refine va_iast (f := (gMW_out u)) hx hb hK hP hD hS 5 0 rfl rfl (ix_rem hO) dX7_out_18 (fun H locs hP hD hS => ?_)
    obtain ⟨hP, hD⟩ := aM_outA hP hD
    refine lv_aload_n hx hb dX7_out_19 rfl (lv_at hl 0 rfl) ?_
    refine lv_dup hx hb dX7_out_20 rfl ?_
    refine va_get (D := (dC, dI)) (ci := 7) (v := .int (gMW_outs (sMW_out u (upd (gMW_out u) (((gMW_outs u) - (gMW_outs u) / (256 : Int32) * (256 : Int32)) : Int32).toNatClampNeg a2)))) (C := RX7) (T := TX7) (N := 30) hx hb hts iX7_out_X7 hown hK hP 0 rfl rfl 20 (by decide) (hts _ qX7_out_11) (fun _ h9 => h9) rfl dX7_out_21 ?_
    refine lv_iconst (v := 1) hx hb dX7_out_24 (by decide) ?_
    refine lv_iadd hx hb dX7_out_25 ?_
    refine va_put (D := (dC, dI)) (ci := 7) (v := .int ((gMW_outs (sMW_out u (upd (gMW_out u) (((gMW_outs u) - (gMW_outs u) / (256 : Int32) * (256 : Int32)) : Int32).toNatClampNeg a2))) + (1 : Int32))) (ty := .int) (C := RX7) (T := TX7) (N := 30) hx hb hts iX7_out_X7 tyX7 tyX7_ok nmX7 hown hK hP hD hS 0 rfl rfl 20 (by decide) (hts _ qX7_out_11) (fun _ h9 => h9) rfl (by decide +kernel) rfl rfl (Nat.le_of_ble_eq_true rfl) dX7_out_26 (fun H locs hP hD hS => ?_)
    obtain ⟨hP, hD⟩ := pM_outs hP hD
    refine lv_goto (tgt := 192) hx hb dX7_out_29 (by decide) ?_
    exact W.vret hx hb hr (fun t ht hW => ⟨⟨(sMW_outs (sMW_out u (upd (gMW_out u) (((gMW_outs u) - (gMW_outs u) / (256 : Int32) * (256 : Int32)) : Int32).toNatClampNeg a2)) ((gMW_outs (sMW_out u (upd (gMW_out u) (((gMW_outs u) - (gMW_outs u) / (256 : Int32) * (256 : Int32)) : Int32).toNatClampNeg a2))) + (1 : Int32))), rfl, (by simp only [f_X7_out, if_pos c1]), by rw [ht]; exact hP, va_K.moved hW.alike hK, hD⟩, hS.F ht⟩) hS.2.2 dX7_out_192
