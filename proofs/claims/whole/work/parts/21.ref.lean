def f_X7_thrown (u : MW) : Int32 := (gMW_thr u)
theorem qX7_thrown_0 : Cond.fieldLink RX7 29 "DiskMachineModel" "thrown" "I" ∈ wsX7_thrown := by decide +kernel
theorem iX7_thrown_X7 : ∀ w ∈ wsX70, w ∈ wsX7_thrown := by decide +kernel
set_option maxHeartbeats 4000000 in
set_option maxRecDepth 100000 in
theorem k_X7_thrown (l : Launch) (dC : Nat → ClassId) (dI : Nat → Nat → Nat) (cI : ClassId) (mO memA dskA rgA inA outA : Nat) (sz : Nat) (u : MW) : Met l yX7_thrown wsX7_thrown ({ frames := 0, cells := 0, slots := 0, locals := 0 }) (va_Pc [.ref mO] (wB dC dI [(cI, .int)] sz (wM cI mO memA dskA rgA inA outA u))) (va_Qi (fun (r : Int32) (u' : MW) => r = (f_X7_thrown u) ∧ u' = u) (fun u' => wE dC dI [(cI, .int)] (va_A (wM cI mO memA dskA rgA inA outA u) sz) (wM cI mO memA dskA rgA inA outA u')) (va_A (wM cI mO memA dskA rgA inA outA u) sz)) 0 0 (va_A (wM cI mO memA dskA rgA inA outA u) sz) := by
  refine Met.ofW (cc := cX7_thrown) (maxL := 1) (ret := (some .int)) (by decide) rfl ?_
  intro p e s m args below meth c s₁ B hml hv
  obtain ⟨rfl, hsz, hP, hK, hD0⟩ := hv
  have hx := B.exec
  have hb := B.bytes
  have hr := B.returns
  have hts := atoms_spec (ws := wsX7_thrown) B.pre
  have hown : s.vm.findClass RX7 = some m.cls := findClass_of_methodNamed B.named
  have hlocks := B.notSynchronized
  subst hsz
  have hD := hD0.self (sz := s.heap.size)
  generalize hAe : va_A (wM cI mO memA dskA rgA inA outA u) s.heap.size = A at hD ⊢
  have hA : ∀ q : Nat, s.heap.size ≤ q → A q := fun q h => by rw [← hAe]; exact Or.inr h
  have hS : va_S A s.heap s.heap [] := va_S.rf
  have hP : va_P (dC, dI) vwCl (wM cI mO memA dskA rgA inA outA u) s.heap := hP
  clear hAe hD0
  have hl := lv_entry ([.ref mO]) (n := 1) (Nat.le_of_ble_eq_true rfl)
  rw [lg_entry_eq]
  generalize (lg_sl ([.ref mO]) ++ List.replicate (1 - (lg_sl ([.ref mO])).length) Slot.unset).toArray = ls at hl ⊢
  have hl : lv_has ls 1 [(0, .ref mO)] := hl
  refine jn_H hP hS (fun H locs hP hS => ?_)
  refine lv_aload_n hx hb dX7_thrown_0 rfl (lv_at hl 0 rfl) ?_
  refine va_get (D := (dC, dI)) (ci := 7) (v := .int (gMW_thr u)) (C := RX7) (T := TX7) (N := 30) hx hb hts iX7_thrown_X7 hown hK hP 0 rfl rfl 0 (by decide) (hts _ qX7_thrown_0) (fun _ h9 => h9) rfl dX7_thrown_1 ?_
  exact W.iret (v := (gMW_thr u)) hx hb hr (fun t ht hW => ⟨⟨(gMW_thr u), u, rfl, ⟨rfl, rfl⟩, by rw [ht]; exact hP, va_K.moved hW.alike hK, hD⟩, hS.F ht⟩) hS.2.2 dX7_thrown_4

def f_X7_noByte (a1 : Int32) : Bool := (if a1 < (0 : Int32) then true else (if a1 ≤ (255 : Int32) then false else true : Bool) : Bool)

set_option maxHeartbeats 4000000 in
set_option maxRecDepth 100000 in
theorem k_X7_noByte (l : Launch) (dC : Nat → ClassId) (dI : Nat → Nat → Nat) (sz : Nat) (a1 : Int32) : Met l yX7_noByte wsX7_noByte ({ frames := 0, cells := 0, slots := 0, locals := 0 }) (va_Pc [.int a1] (wB dC dI [] sz ([] : va_W))) (va_Qi (fun (r : Int32) (u' : Unit) => r = (bI (f_X7_noByte a1)) ∧ u' = ()) (fun u' => wE dC dI [] (va_A ([] : va_W) sz) ([] : va_W)) (va_A ([] : va_W) sz)) 0 0 (va_A ([] : va_W) sz) := by
  refine Met.ofW (cc := cX7_noByte) (maxL := 1) (ret := (some .boolean)) (by decide) rfl ?_
  intro p e s m args below meth c s₁ B hml hv
  obtain ⟨rfl, hsz, hP, hK, hD0⟩ := hv
  have hx := B.exec
  have hb := B.bytes
  have hr := B.returns
  have hts := atoms_spec (ws := wsX7_noByte) B.pre
  have hown : s.vm.findClass RX7 = some m.cls := findClass_of_methodNamed B.named
  have hlocks := B.notSynchronized
  subst hsz
  have hD := hD0.self (sz := s.heap.size)
  generalize hAe : va_A ([] : va_W) s.heap.size = A at hD ⊢
  have hA : ∀ q : Nat, s.heap.size ≤ q → A q := fun q h => by rw [← hAe]; exact Or.inr h
  have hS : va_S A s.heap s.heap [] := va_S.rf
  have hP : va_P (dC, dI) vwCl ([] : va_W) s.heap := hP
  clear hAe hD0
  have hl := lv_entry ([.int a1]) (n := 1) (Nat.le_of_ble_eq_true rfl)
  rw [lg_entry_eq]
  generalize (lg_sl ([.int a1]) ++ List.replicate (1 - (lg_sl ([.int a1])).length) Slot.unset).toArray = ls at hl ⊢
  have hl : lv_has ls 1 [(0, .int a1)] := hl
  refine jn_H hP hS (fun H locs hP hS => ?_)
  refine lv_iload_n hx hb dX7_noByte_0 rfl (lv_at hl 0 rfl) ?_
  refine jn_b (D := (dC, dI)) (cl := vwCl) (ws := ([] : va_W)) (A := A) (H0 := s.heap) (nL := 1) 16 (if a1 < (0 : Int32) then true else (if a1 ≤ (255 : Int32) then false else true : Bool) : Bool) [(0, .int a1)] [] (fun H locs ls hP hS hl => ?_) (fun hJ1 => ?_)
  · skip
    exact W.zret (v := (bI (if a1 < (0 : Int32) then true else (if a1 ≤ (255 : Int32) then false else true : Bool) : Bool))) hx hb hr (bI_nar (if a1 < (0 : Int32) then true else (if a1 ≤ (255 : Int32) then false else true : Bool) : Bool)) (fun t ht hW => ⟨⟨(bI (if a1 < (0 : Int32) then true else (if a1 ≤ (255 : Int32) then false else true : Bool) : Bool)), (), rfl, ⟨rfl, rfl⟩, by rw [ht]; exact hP, va_K.moved hW.alike hK, hD⟩, hS.F ht⟩) hS.2.2 dX7_noByte_16
  · skip
    refine lv_if_lt (tgt := 11) hx hb dX7_noByte_1 (by decide) (fun c2 => ?_) (fun c2 => ?_)
    · skip
      refine lv_iconst (v := 1) hx hb dX7_noByte_11 (by decide) ?_
      refine lv_goto (tgt := 16) hx hb dX7_noByte_12 (by decide) ?_
      exact hJ1 true _ _ _ (by simp only [if_pos c2]) hP hS (lv_sub hl [0] rfl)
    · skip
      refine lv_iload_n hx hb dX7_noByte_4 rfl (lv_at hl 0 rfl) ?_
      refine lv_sipush (v := 255) hx hb dX7_noByte_5 (by decide) ?_
      refine jn_b (D := (dC, dI)) (cl := vwCl) (ws := ([] : va_W)) (A := A) (H0 := s.heap) (nL := 1) 16 (if a1 ≤ (255 : Int32) then false else true : Bool) [(0, .int a1)] [] (fun H locs ls hP hS hl => ?_) (fun hJ3 => ?_)
      · skip
        exact hJ1 (if a1 ≤ (255 : Int32) then false else true : Bool) _ _ _ (by simp only [if_neg c2]) hP hS (lv_sub hl [0] rfl)
      · skip
        refine lv_icmp_le (tgt := 15) hx hb dX7_noByte_8 (by decide) (fun c4 => ?_) (fun c4 => ?_)
        · skip
          refine lv_iconst (v := 0) hx hb dX7_noByte_15 (by decide) ?_
          exact hJ3 false _ _ _ (by simp only [if_pos c4]) hP hS (lv_sub hl [0] rfl)
        · skip
          refine lv_iconst (v := 1) hx hb dX7_noByte_11 (by decide) ?_
          refine lv_goto (tgt := 16) hx hb dX7_noByte_12 (by decide) ?_
          exact hJ3 true _ _ _ (by simp only [if_neg c4]) hP hS (lv_sub hl [0] rfl)

def f_X7_noPlace (a1 : Int32) : Bool := (if a1 < (0 : Int32) then true else (if a1 < (4096 : Int32) then false else true : Bool) : Bool)

set_option maxHeartbeats 4000000 in
set_option maxRecDepth 100000 in
theorem k_X7_noPlace (l : Launch) (dC : Nat → ClassId) (dI : Nat → Nat → Nat) (sz : Nat) (a1 : Int32) : Met l yX7_noPlace wsX7_noPlace ({ frames := 0, cells := 0, slots := 0, locals := 0 }) (va_Pc [.int a1] (wB dC dI [] sz ([] : va_W))) (va_Qi (fun (r : Int32) (u' : Unit) => r = (bI (f_X7_noPlace a1)) ∧ u' = ()) (fun u' => wE dC dI [] (va_A ([] : va_W) sz) ([] : va_W)) (va_A ([] : va_W) sz)) 0 0 (va_A ([] : va_W) sz) := by
  refine Met.ofW (cc := cX7_noPlace) (maxL := 1) (ret := (some .boolean)) (by decide) rfl ?_
  intro p e s m args below meth c s₁ B hml hv
  obtain ⟨rfl, hsz, hP, hK, hD0⟩ := hv
  have hx := B.exec
  have hb := B.bytes
  have hr := B.returns
  have hts := atoms_spec (ws := wsX7_noPlace) B.pre
  have hown : s.vm.findClass RX7 = some m.cls := findClass_of_methodNamed B.named
  have hlocks := B.notSynchronized
  subst hsz
  have hD := hD0.self (sz := s.heap.size)
  generalize hAe : va_A ([] : va_W) s.heap.size = A at hD ⊢
  have hA : ∀ q : Nat, s.heap.size ≤ q → A q := fun q h => by rw [← hAe]; exact Or.inr h
  have hS : va_S A s.heap s.heap [] := va_S.rf
  have hP : va_P (dC, dI) vwCl ([] : va_W) s.heap := hP
  clear hAe hD0
  have hl := lv_entry ([.int a1]) (n := 1) (Nat.le_of_ble_eq_true rfl)
  rw [lg_entry_eq]
  generalize (lg_sl ([.int a1]) ++ List.replicate (1 - (lg_sl ([.int a1])).length) Slot.unset).toArray = ls at hl ⊢
  have hl : lv_has ls 1 [(0, .int a1)] := hl
  refine jn_H hP hS (fun H locs hP hS => ?_)
  refine lv_iload_n hx hb dX7_noPlace_0 rfl (lv_at hl 0 rfl) ?_
  refine jn_b (D := (dC, dI)) (cl := vwCl) (ws := ([] : va_W)) (A := A) (H0 := s.heap) (nL := 1) 16 (if a1 < (0 : Int32) then true else (if a1 < (4096 : Int32) then false else true : Bool) : Bool) [(0, .int a1)] [] (fun H locs ls hP hS hl => ?_) (fun hJ1 => ?_)
  · skip
    exact W.zret (v := (bI (if a1 < (0 : Int32) then true else (if a1 < (4096 : Int32) then false else true : Bool) : Bool))) hx hb hr (bI_nar (if a1 < (0 : Int32) then true else (if a1 < (4096 : Int32) then false else true : Bool) : Bool)) (fun t ht hW => ⟨⟨(bI (if a1 < (0 : Int32) then true else (if a1 < (4096 : Int32) then false else true : Bool) : Bool)), (), rfl, ⟨rfl, rfl⟩, by rw [ht]; exact hP, va_K.moved hW.alike hK, hD⟩, hS.F ht⟩) hS.2.2 dX7_noPlace_16
  · skip
    refine lv_if_lt (tgt := 11) hx hb dX7_noPlace_1 (by decide) (fun c2 => ?_) (fun c2 => ?_)
    · skip
      refine lv_iconst (v := 1) hx hb dX7_noPlace_11 (by decide) ?_
      refine lv_goto (tgt := 16) hx hb dX7_noPlace_12 (by decide) ?_
      exact hJ1 true _ _ _ (by simp only [if_pos c2]) hP hS (lv_sub hl [0] rfl)
    · skip
      refine lv_iload_n hx hb dX7_noPlace_4 rfl (lv_at hl 0 rfl) ?_
      refine lv_sipush (v := 4096) hx hb dX7_noPlace_5 (by decide) ?_
      refine jn_b (D := (dC, dI)) (cl := vwCl) (ws := ([] : va_W)) (A := A) (H0 := s.heap) (nL := 1) 16 (if a1 < (4096 : Int32) then false else true : Bool) [(0, .int a1)] [] (fun H locs ls hP hS hl => ?_) (fun hJ3 => ?_)
      · skip
        exact hJ1 (if a1 < (4096 : Int32) then false else true : Bool) _ _ _ (by simp only [if_neg c2]) hP hS (lv_sub hl [0] rfl)
      · skip
        refine lv_icmp_lt (tgt := 15) hx hb dX7_noPlace_8 (by decide) (fun c4 => ?_) (fun c4 => ?_)
        · skip
          refine lv_iconst (v := 0) hx hb dX7_noPlace_15 (by decide) ?_
          exact hJ3 false _ _ _ (by simp only [if_pos c4]) hP hS (lv_sub hl [0] rfl)
        · skip
          refine lv_iconst (v := 1) hx hb dX7_noPlace_11 (by decide) ?_
          refine lv_goto (tgt := 16) hx hb dX7_noPlace_12 (by decide) ?_
          exact hJ3 true _ _ _ (by simp only [if_neg c4]) hP hS (lv_sub hl [0] rfl)

def f_X7_get (u : MW) (a1 : Int32) : Int32 := ((gMW_m u) ((a1 &&& (4095 : Int32)) : Int32).toNatClampNeg)
theorem qX7_get_0 : Cond.fieldLink RX7 7 "DiskMachineModel" "memory" "[I" ∈ wsX7_get := by decide +kernel
theorem iX7_get_X7 : ∀ w ∈ wsX70, w ∈ wsX7_get := by decide +kernel
set_option maxHeartbeats 4000000 in
set_option maxRecDepth 100000 in
theorem k_X7_get (l : Launch) (dC : Nat → ClassId) (dI : Nat → Nat → Nat) (cI : ClassId) (mO memA dskA rgA inA outA : Nat) (sz : Nat) (u : MW) (a1 : Int32) : Met l yX7_get wsX7_get ({ frames := 0, cells := 0, slots := 0, locals := 0 }) (va_Pc [.ref mO, .int a1] (wB dC dI [(cI, .int)] sz (wM cI mO memA dskA rgA inA outA u))) (va_Qi (fun (r : Int32) (u' : MW) => r = (f_X7_get u a1) ∧ u' = u) (fun u' => wE dC dI [(cI, .int)] (va_A (wM cI mO memA dskA rgA inA outA u) sz) (wM cI mO memA dskA rgA inA outA u')) (va_A (wM cI mO memA dskA rgA inA outA u) sz)) 0 0 (va_A (wM cI mO memA dskA rgA inA outA u) sz) := by
  refine Met.ofW (cc := cX7_get) (maxL := 2) (ret := (some .int)) (by decide) rfl ?_
  intro p e s m args below meth c s₁ B hml hv
  obtain ⟨rfl, hsz, hP, hK, hD0⟩ := hv
  have hx := B.exec
  have hb := B.bytes
  have hr := B.returns
  have hts := atoms_spec (ws := wsX7_get) B.pre
  have hown : s.vm.findClass RX7 = some m.cls := findClass_of_methodNamed B.named
  have hlocks := B.notSynchronized
  subst hsz
  have hD := hD0.self (sz := s.heap.size)
  generalize hAe : va_A (wM cI mO memA dskA rgA inA outA u) s.heap.size = A at hD ⊢
  have hA : ∀ q : Nat, s.heap.size ≤ q → A q := fun q h => by rw [← hAe]; exact Or.inr h
  have hS : va_S A s.heap s.heap [] := va_S.rf
  have hP : va_P (dC, dI) vwCl (wM cI mO memA dskA rgA inA outA u) s.heap := hP
  clear hAe hD0
  have hl := lv_entry ([.ref mO, .int a1]) (n := 2) (Nat.le_of_ble_eq_true rfl)
  rw [lg_entry_eq]
  generalize (lg_sl ([.ref mO, .int a1]) ++ List.replicate (2 - (lg_sl ([.ref mO, .int a1])).length) Slot.unset).toArray = ls at hl ⊢
  have hl : lv_has ls 2 [(0, .ref mO), (1, .int a1)] := hl
  refine jn_H hP hS (fun H locs hP hS => ?_)
  refine lv_aload_n hx hb dX7_get_0 rfl (lv_at hl 0 rfl) ?_
  refine va_get (D := (dC, dI)) (ci := 7) (v := .ref memA) (C := RX7) (T := TX7) (N := 30) hx hb hts iX7_get_X7 hown hK hP 0 rfl rfl 1 (by decide) (hts _ qX7_get_0) (fun _ h9 => h9) rfl dX7_get_1 ?_
  refine lv_iload_n hx hb dX7_get_4 rfl (lv_at hl 1 rfl) ?_
  refine lv_sipush (v := 4095) hx hb dX7_get_5 (by decide) ?_
  refine lv_iand hx hb dX7_get_8 ?_
  refine va_iald (f := (gMW_m u)) hx hb hK hP 1 0 rfl rfl (ix_4096 _) dX7_get_9 ?_
  exact W.iret (v := ((gMW_m u) ((a1 &&& (4095 : Int32)) : Int32).toNatClampNeg)) hx hb hr (fun t ht hW => ⟨⟨((gMW_m u) ((a1 &&& (4095 : Int32)) : Int32).toNatClampNeg), u, rfl, ⟨rfl, rfl⟩, by rw [ht]; exact hP, va_K.moved hW.alike hK, hD⟩, hS.F ht⟩) hS.2.2 dX7_get_10

def f_X7_set (u : MW) (a1 : Int32) (a2 : Int32) : MW := (sMW_m u (upd (gMW_m u) ((a1 &&& (4095 : Int32)) : Int32).toNatClampNeg (a2 &&& (255 : Int32))))
theorem qX7_set_0 : Cond.fieldLink RX7 7 "DiskMachineModel" "memory" "[I" ∈ wsX7_set := by decide +kernel
theorem iX7_set_X7 : ∀ w ∈ wsX70, w ∈ wsX7_set := by decide +kernel
set_option maxHeartbeats 4000000 in
set_option maxRecDepth 100000 in
theorem k_X7_set (l : Launch) (dC : Nat → ClassId) (dI : Nat → Nat → Nat) (cI : ClassId) (mO memA dskA rgA inA outA : Nat) (sz : Nat) (u : MW) (a1 : Int32) (a2 : Int32) : Met l yX7_set wsX7_set ({ frames := 0, cells := 0, slots := 0, locals := 0 }) (va_Pc [.ref mO, .int a1, .int a2] (wB dC dI [(cI, .int)] sz (wM cI mO memA dskA rgA inA outA u))) (va_Qv (fun u' : MW => u' = (f_X7_set u a1 a2)) (fun u' => wE dC dI [(cI, .int)] (va_A (wM cI mO memA dskA rgA inA outA u) sz) (wM cI mO memA dskA rgA inA outA u')) (va_A (wM cI mO memA dskA rgA inA outA u) sz)) 0 0 (va_A (wM cI mO memA dskA rgA inA outA u) sz) := by
  refine Met.ofW (cc := cX7_set) (maxL := 3) (ret := none) (by decide) rfl ?_
  intro p e s m args below meth c s₁ B hml hv
  obtain ⟨rfl, hsz, hP, hK, hD0⟩ := hv
  have hx := B.exec
  have hb := B.bytes
  have hr := B.returns
  have hts := atoms_spec (ws := wsX7_set) B.pre
  have hown : s.vm.findClass RX7 = some m.cls := findClass_of_methodNamed B.named
  have hlocks := B.notSynchronized
  subst hsz
  have hD := hD0.self (sz := s.heap.size)
  generalize hAe : va_A (wM cI mO memA dskA rgA inA outA u) s.heap.size = A at hD ⊢
  have hA : ∀ q : Nat, s.heap.size ≤ q → A q := fun q h => by rw [← hAe]; exact Or.inr h
  have hS : va_S A s.heap s.heap [] := va_S.rf
  have hP : va_P (dC, dI) vwCl (wM cI mO memA dskA rgA inA outA u) s.heap := hP
  clear hAe hD0
  have hl := lv_entry ([.ref mO, .int a1, .int a2]) (n := 3) (Nat.le_of_ble_eq_true rfl)
  rw [lg_entry_eq]
  generalize (lg_sl ([.ref mO, .int a1, .int a2]) ++ List.replicate (3 - (lg_sl ([.ref mO, .int a1, .int a2])).length) Slot.unset).toArray = ls at hl ⊢
  have hl : lv_has ls 3 [(0, .ref mO), (1, .int a1), (2, .int a2)] := hl
  refine jn_H hP hS (fun H locs hP hS => ?_)
  refine lv_aload_n hx hb dX7_set_0 rfl (lv_at hl 0 rfl) ?_
  refine va_get (D := (dC, dI)) (ci := 7) (v := .ref memA) (C := RX7) (T := TX7) (N := 30) hx hb hts iX7_set_X7 hown hK hP 0 rfl rfl 1 (by decide) (hts _ qX7_set_0) (fun _ h9 => h9) rfl dX7_set_1 ?_
  refine lv_iload_n hx hb dX7_set_4 rfl (lv_at hl 1 rfl) ?_
  refine lv_sipush (v := 4095) hx hb dX7_set_5 (by decide) ?_
  refine lv_iand hx hb dX7_set_8 ?_
  refine lv_iload_n hx hb dX7_set_9 rfl (lv_at hl 2 rfl) ?_
  refine lv_sipush (v := 255) hx hb dX7_set_10 (by decide) ?_
  refine lv_iand hx hb dX7_set_13 ?_
  refine va_iast (f := (gMW_m u)) hx hb hK hP hD hS 1 0 rfl rfl (ix_4096 _) dX7_set_14 (fun H locs hP hD hS => ?_)
  obtain ⟨hP, hD⟩ := aM_memA hP hD
  exact W.vret hx hb hr (fun t ht hW => ⟨⟨(sMW_m u (upd (gMW_m u) ((a1 &&& (4095 : Int32)) : Int32).toNatClampNeg (a2 &&& (255 : Int32)))), rfl, rfl, by rw [ht]; exact hP, va_K.moved hW.alike hK, hD⟩, hS.F ht⟩) hS.2.2 dX7_set_15

def f_X7_getWord (u : MW) (a1 : Int32) : Int32 := ((f_X7_get u a1) ||| ((f_X7_get u (a1 + (1 : Int32))) <<< ((8 : Int32) &&& 31)))

set_option maxHeartbeats 4000000 in
set_option maxRecDepth 100000 in
theorem k_X7_getWord (l : Launch) (dC : Nat → ClassId) (dI : Nat → Nat → Nat) (cI : ClassId) (mO memA dskA rgA inA outA : Nat) (sz : Nat) (u : MW) (a1 : Int32) : Met l yX7_getWord wsX7_getWord ({ frames := 1, cells := 0, slots := 0, locals := 21 }) (va_Pc [.ref mO, .int a1] (wB dC dI [(cI, .int)] sz (wM cI mO memA dskA rgA inA outA u))) (va_Qi (fun (r : Int32) (u' : MW) => r = (f_X7_getWord u a1) ∧ u' = u) (fun u' => wE dC dI [(cI, .int)] (va_A (wM cI mO memA dskA rgA inA outA u) sz) (wM cI mO memA dskA rgA inA outA u')) (va_A (wM cI mO memA dskA rgA inA outA u) sz)) 0 0 (va_A (wM cI mO memA dskA rgA inA outA u) sz) := by
  refine Met.ofW (cc := cX7_getWord) (maxL := 2) (ret := (some .int)) (by decide) rfl ?_
  intro p e s m args below meth c s₁ B hml hv
  obtain ⟨rfl, hsz, hP, hK, hD0⟩ := hv
  have hx := B.exec
  have hb := B.bytes
  have hr := B.returns
  have hts := atoms_spec (ws := wsX7_getWord) B.pre
  have hown : s.vm.findClass RX7 = some m.cls := findClass_of_methodNamed B.named
  have hlocks := B.notSynchronized
  subst hsz
  have hD := hD0.self (sz := s.heap.size)
  generalize hAe : va_A (wM cI mO memA dskA rgA inA outA u) s.heap.size = A at hD ⊢
  have hA : ∀ q : Nat, s.heap.size ≤ q → A q := fun q h => by rw [← hAe]; exact Or.inr h
  have hS : va_S A s.heap s.heap [] := va_S.rf
  have hP : va_P (dC, dI) vwCl (wM cI mO memA dskA rgA inA outA u) s.heap := hP
  clear hAe hD0
  have hl := lv_entry ([.ref mO, .int a1]) (n := 2) (Nat.le_of_ble_eq_true rfl)
  rw [lg_entry_eq]
  generalize (lg_sl ([.ref mO, .int a1]) ++ List.replicate (2 - (lg_sl ([.ref mO, .int a1])).length) Slot.unset).toArray = ls at hl ⊢
  have hl : lv_has ls 2 [(0, .ref mO), (1, .int a1)] := hl
  refine jn_H hP hS (fun H locs hP hS => ?_)
  refine lv_aload_n hx hb dX7_getWord_0 rfl (lv_at hl 0 rfl) ?_
  refine lv_iload_n hx hb dX7_getWord_1 rfl (lv_at hl 1 rfl) ?_
  obtain ⟨hPc, hDc, hFc⟩ := xM_M hP hD hS hA
  have hKc := hK.sub (tys' := [(cI, .int)]) [0] rfl
  refine va_calli (va_runV (As := [.int a1]) (rest := []) ⟨hx, hb, hml, hown, hts⟩ (k_X7_get l dC dI cI mO memA dskA rgA inA outA H.size u a1) (cwV 1 hts gX7_getWord_X7_get rfl rfl rfl (by decide +kernel) ⟨Nat.le_of_ble_eq_true rfl, Nat.le_of_ble_eq_true rfl⟩) ⟨fun a U g mk q => by obtain ⟨q0, q1, qP, qK, qD⟩ := q; exact ⟨q0, q1, qP, va_K.moved (u := U) (U := U.calling g mk a) (Vm.Alike.refl U.vm) qK, qD⟩, va_recv hKc hPc (ci := 7) (q0 := 0) rfl rfl, fun U hU hW => ⟨rfl, by rw [hU], by rw [hU]; exact hPc, va_K.moved hW.alike hKc, hDc.weaken (fun _ _ _ _ => trivial)⟩⟩ rfl rfl hl.1 rfl (lv_room (Nat.le_of_ble_eq_true rfl)) dX7_getWord_2 ⟨Nat.le_of_ble_eq_true rfl, Nat.le_of_ble_eq_true rfl⟩) hS (fun q _ h => hFc q h) hFc (fun r9 u9 t H1 locs ht hvm hw hB hz1 hk1 hS => ?_)
  obtain ⟨hw1, hw2⟩ := hw
  have hw2 := hw2.symm
  subst hw1 hw2
  obtain ⟨hP1, hK1, hD1⟩ := hB
  rw [ht] at hP1
  obtain ⟨hP, hD⟩ := jM_M0 hP hD hk1 hFc hP1 hD1
  clear hPc hDc hKc hFc hz1 hk1 hP1 hK1 hD1 ht hvm
  generalize H1 = H at hP hS ⊢
  refine lv_aload_n hx hb dX7_getWord_5 rfl (lv_at hl 0 rfl) ?_
  refine lv_iload_n hx hb dX7_getWord_6 rfl (lv_at hl 1 rfl) ?_
  refine lv_iconst (v := 1) hx hb dX7_getWord_7 (by decide) ?_
  refine lv_iadd hx hb dX7_getWord_8 ?_
  obtain ⟨hPc, hDc, hFc⟩ := xM_M hP hD hS hA
  have hKc := hK.sub (tys' := [(cI, .int)]) [0] rfl
  refine va_calli (va_runV (As := [.int (a1 + (1 : Int32))]) (rest := [.int (f_X7_get u a1)]) ⟨hx, hb, hml, hown, hts⟩ (k_X7_get l dC dI cI mO memA dskA rgA inA outA H.size u (a1 + (1 : Int32))) (cwV 1 hts gX7_getWord_X7_get rfl rfl rfl (by decide +kernel) ⟨Nat.le_of_ble_eq_true rfl, Nat.le_of_ble_eq_true rfl⟩) ⟨fun a U g mk q => by obtain ⟨q0, q1, qP, qK, qD⟩ := q; exact ⟨q0, q1, qP, va_K.moved (u := U) (U := U.calling g mk a) (Vm.Alike.refl U.vm) qK, qD⟩, va_recv hKc hPc (ci := 7) (q0 := 0) rfl rfl, fun U hU hW => ⟨rfl, by rw [hU], by rw [hU]; exact hPc, va_K.moved hW.alike hKc, hDc.weaken (fun _ _ _ _ => trivial)⟩⟩ rfl rfl hl.1 rfl (lv_room (Nat.le_of_ble_eq_true rfl)) dX7_getWord_9 ⟨Nat.le_of_ble_eq_true rfl, Nat.le_of_ble_eq_true rfl⟩) hS (fun q _ h => hFc q h) hFc (fun r9 u9 t H1 locs ht hvm hw hB hz1 hk1 hS => ?_)
  obtain ⟨hw1, hw2⟩ := hw
  have hw2 := hw2.symm
  subst hw1 hw2
  obtain ⟨hP1, hK1, hD1⟩ := hB
  rw [ht] at hP1
  obtain ⟨hP, hD⟩ := jM_M0 hP hD hk1 hFc hP1 hD1
  clear hPc hDc hKc hFc hz1 hk1 hP1 hK1 hD1 ht hvm
  generalize H1 = H at hP hS ⊢
  refine lv_bipush (v := 8) hx hb dX7_getWord_12 (by decide) ?_
  refine lv_ishl hx hb dX7_getWord_14 ?_
  refine lv_ior hx hb dX7_getWord_15 ?_
  exact W.iret (v := ((f_X7_get u a1) ||| ((f_X7_get u (a1 + (1 : Int32))) <<< ((8 : Int32) &&& 31)))) hx hb hr (fun t ht hW => ⟨⟨((f_X7_get u a1) ||| ((f_X7_get u (a1 + (1 : Int32))) <<< ((8 : Int32) &&& 31))), u, rfl, ⟨rfl, rfl⟩, by rw [ht]; exact hP, va_K.moved hW.alike hK, hD⟩, hS.F ht⟩) hS.2.2 dX7_getWord_16

def f_X7_setWord (u : MW) (a1 : Int32) (a2 : Int32) : MW := (f_X7_set (f_X7_set u a1 a2) (a1 + (1 : Int32)) (a2 >>> ((8 : Int32) &&& 31)))

set_option maxHeartbeats 4000000 in
set_option maxRecDepth 100000 in
theorem k_X7_setWord (l : Launch) (dC : Nat → ClassId) (dI : Nat → Nat → Nat) (cI : ClassId) (mO memA dskA rgA inA outA : Nat) (sz : Nat) (u : MW) (a1 : Int32) (a2 : Int32) : Met l yX7_setWord wsX7_setWord ({ frames := 1, cells := 0, slots := 0, locals := 22 }) (va_Pc [.ref mO, .int a1, .int a2] (wB dC dI [(cI, .int)] sz (wM cI mO memA dskA rgA inA outA u))) (va_Qv (fun u' : MW => u' = (f_X7_setWord u a1 a2)) (fun u' => wE dC dI [(cI, .int)] (va_A (wM cI mO memA dskA rgA inA outA u) sz) (wM cI mO memA dskA rgA inA outA u')) (va_A (wM cI mO memA dskA rgA inA outA u) sz)) 0 0 (va_A (wM cI mO memA dskA rgA inA outA u) sz) := by
  refine Met.ofW (cc := cX7_setWord) (maxL := 3) (ret := none) (by decide) rfl ?_
  intro p e s m args below meth c s₁ B hml hv
  obtain ⟨rfl, hsz, hP, hK, hD0⟩ := hv
  have hx := B.exec
  have hb := B.bytes
  have hr := B.returns
  have hts := atoms_spec (ws := wsX7_setWord) B.pre
  have hown : s.vm.findClass RX7 = some m.cls := findClass_of_methodNamed B.named
  have hlocks := B.notSynchronized
  subst hsz
  have hD := hD0.self (sz := s.heap.size)
  generalize hAe : va_A (wM cI mO memA dskA rgA inA outA u) s.heap.size = A at hD ⊢
  have hA : ∀ q : Nat, s.heap.size ≤ q → A q := fun q h => by rw [← hAe]; exact Or.inr h
  have hS : va_S A s.heap s.heap [] := va_S.rf
  have hP : va_P (dC, dI) vwCl (wM cI mO memA dskA rgA inA outA u) s.heap := hP
  clear hAe hD0
  have hl := lv_entry ([.ref mO, .int a1, .int a2]) (n := 3) (Nat.le_of_ble_eq_true rfl)
  rw [lg_entry_eq]
  generalize (lg_sl ([.ref mO, .int a1, .int a2]) ++ List.replicate (3 - (lg_sl ([.ref mO, .int a1, .int a2])).length) Slot.unset).toArray = ls at hl ⊢
  have hl : lv_has ls 3 [(0, .ref mO), (1, .int a1), (2, .int a2)] := hl
  refine jn_H hP hS (fun H locs hP hS => ?_)
  refine lv_aload_n hx hb dX7_setWord_0 rfl (lv_at hl 0 rfl) ?_
  refine lv_iload_n hx hb dX7_setWord_1 rfl (lv_at hl 1 rfl) ?_
  refine lv_iload_n hx hb dX7_setWord_2 rfl (lv_at hl 2 rfl) ?_
  obtain ⟨hPc, hDc, hFc⟩ := xM_M hP hD hS hA
  have hKc := hK.sub (tys' := [(cI, .int)]) [0] rfl
  refine va_callv (va_runV (As := [.int a1, .int a2]) (rest := []) ⟨hx, hb, hml, hown, hts⟩ (k_X7_set l dC dI cI mO memA dskA rgA inA outA H.size u a1 a2) (cwV 2 hts gX7_setWord_X7_set rfl rfl rfl (by decide +kernel) ⟨Nat.le_of_ble_eq_true rfl, Nat.le_of_ble_eq_true rfl⟩) ⟨fun a U g mk q => by obtain ⟨q0, q1, qP, qK, qD⟩ := q; exact ⟨q0, q1, qP, va_K.moved (u := U) (U := U.calling g mk a) (Vm.Alike.refl U.vm) qK, qD⟩, va_recv hKc hPc (ci := 7) (q0 := 0) rfl rfl, fun U hU hW => ⟨rfl, by rw [hU], by rw [hU]; exact hPc, va_K.moved hW.alike hKc, hDc.weaken (fun _ _ _ _ => trivial)⟩⟩ rfl rfl hl.1 rfl (lv_room (Nat.le_of_ble_eq_true rfl)) dX7_setWord_3 ⟨Nat.le_of_ble_eq_true rfl, Nat.le_of_ble_eq_true rfl⟩) hS (fun q _ h => hFc q h) hFc (fun u9 t H1 locs ht hvm hw hB hz1 hk1 hS => ?_)
  subst hw
  obtain ⟨hP1, hK1, hD1⟩ := hB
  rw [ht] at hP1
  obtain ⟨hP, hD⟩ := jM_M hP hD hk1 hFc hP1 hD1
  clear hPc hDc hKc hFc hz1 hk1 hP1 hK1 hD1 ht hvm
  generalize H1 = H at hP hS ⊢
  refine lv_aload_n hx hb dX7_setWord_6 rfl (lv_at hl 0 rfl) ?_
  refine lv_iload_n hx hb dX7_setWord_7 rfl (lv_at hl 1 rfl) ?_
  refine lv_iconst (v := 1) hx hb dX7_setWord_8 (by decide) ?_
  refine lv_iadd hx hb dX7_setWord_9 ?_
  refine lv_iload_n hx hb dX7_setWord_10 rfl (lv_at hl 2 rfl) ?_
  refine lv_bipush (v := 8) hx hb dX7_setWord_11 (by decide) ?_
  refine lv_ishr hx hb dX7_setWord_13 ?_
  obtain ⟨hPc, hDc, hFc⟩ := xM_M hP hD hS hA
  have hKc := hK.sub (tys' := [(cI, .int)]) [0] rfl
  refine va_callv (va_runV (As := [.int (a1 + (1 : Int32)), .int (a2 >>> ((8 : Int32) &&& 31))]) (rest := []) ⟨hx, hb, hml, hown, hts⟩ (k_X7_set l dC dI cI mO memA dskA rgA inA outA H.size (f_X7_set u a1 a2) (a1 + (1 : Int32)) (a2 >>> ((8 : Int32) &&& 31))) (cwV 2 hts gX7_setWord_X7_set rfl rfl rfl (by decide +kernel) ⟨Nat.le_of_ble_eq_true rfl, Nat.le_of_ble_eq_true rfl⟩) ⟨fun a U g mk q => by obtain ⟨q0, q1, qP, qK, qD⟩ := q; exact ⟨q0, q1, qP, va_K.moved (u := U) (U := U.calling g mk a) (Vm.Alike.refl U.vm) qK, qD⟩, va_recv hKc hPc (ci := 7) (q0 := 0) rfl rfl, fun U hU hW => ⟨rfl, by rw [hU], by rw [hU]; exact hPc, va_K.moved hW.alike hKc, hDc.weaken (fun _ _ _ _ => trivial)⟩⟩ rfl rfl hl.1 rfl (lv_room (Nat.le_of_ble_eq_true rfl)) dX7_setWord_14 ⟨Nat.le_of_ble_eq_true rfl, Nat.le_of_ble_eq_true rfl⟩) hS (fun q _ h => hFc q h) hFc (fun u9 t H1 locs ht hvm hw hB hz1 hk1 hS => ?_)
  subst hw
  obtain ⟨hP1, hK1, hD1⟩ := hB
  rw [ht] at hP1
  obtain ⟨hP, hD⟩ := jM_M hP hD hk1 hFc hP1 hD1
  clear hPc hDc hKc hFc hz1 hk1 hP1 hK1 hD1 ht hvm
  generalize H1 = H at hP hS ⊢
  exact W.vret hx hb hr (fun t ht hW => ⟨⟨(f_X7_set (f_X7_set u a1 a2) (a1 + (1 : Int32)) (a2 >>> ((8 : Int32) &&& 31))), rfl, rfl, by rw [ht]; exact hP, va_K.moved hW.alike hK, hD⟩, hS.F ht⟩) hS.2.2 dX7_setWord_17

def f_X7_next (u : MW) : Int32 × MW := ((f_X7_get u (gMW_pc u)), (sMW_pc u (((gMW_pc u) + (1 : Int32)) &&& (65535 : Int32))))
theorem qX7_next_0 : Cond.fieldLink RX7 47 "DiskMachineModel" "pc" "I" ∈ wsX7_next := by decide +kernel
theorem qX7_next_1 : Cond.constant RX7 50 (65535) ∈ wsX7_next := by decide +kernel
theorem iX7_next_X7 : ∀ w ∈ wsX70, w ∈ wsX7_next := by decide +kernel
set_option maxHeartbeats 4000000 in
set_option maxRecDepth 100000 in
theorem k_X7_next (l : Launch) (dC : Nat → ClassId) (dI : Nat → Nat → Nat) (cI : ClassId) (mO memA dskA rgA inA outA : Nat) (sz : Nat) (u : MW) : Met l yX7_next wsX7_next ({ frames := 1, cells := 0, slots := 0, locals := 21 }) (va_Pc [.ref mO] (wB dC dI [(cI, .int)] sz (wM cI mO memA dskA rgA inA outA u))) (va_Qi (fun (r : Int32) (u' : MW) => r = (f_X7_next u).1 ∧ u' = (f_X7_next u).2) (fun u' => wE dC dI [(cI, .int)] (va_A (wM cI mO memA dskA rgA inA outA u) sz) (wM cI mO memA dskA rgA inA outA u')) (va_A (wM cI mO memA dskA rgA inA outA u) sz)) 0 0 (va_A (wM cI mO memA dskA rgA inA outA u) sz) := by
  refine Met.ofW (cc := cX7_next) (maxL := 2) (ret := (some .int)) (by decide) rfl ?_
  intro p e s m args below meth c s₁ B hml hv
  obtain ⟨rfl, hsz, hP, hK, hD0⟩ := hv
  have hx := B.exec
  have hb := B.bytes
  have hr := B.returns
  have hts := atoms_spec (ws := wsX7_next) B.pre
  have hown : s.vm.findClass RX7 = some m.cls := findClass_of_methodNamed B.named
  have hlocks := B.notSynchronized
  subst hsz
  have hD := hD0.self (sz := s.heap.size)
  generalize hAe : va_A (wM cI mO memA dskA rgA inA outA u) s.heap.size = A at hD ⊢
  have hA : ∀ q : Nat, s.heap.size ≤ q → A q := fun q h => by rw [← hAe]; exact Or.inr h
  have hS : va_S A s.heap s.heap [] := va_S.rf
  have hP : va_P (dC, dI) vwCl (wM cI mO memA dskA rgA inA outA u) s.heap := hP
  clear hAe hD0
  have hl := lv_entry ([.ref mO]) (n := 2) (Nat.le_of_ble_eq_true rfl)
  rw [lg_entry_eq]
  generalize (lg_sl ([.ref mO]) ++ List.replicate (2 - (lg_sl ([.ref mO])).length) Slot.unset).toArray = ls at hl ⊢
  have hl : lv_has ls 2 [(0, .ref mO)] := hl
  refine jn_H hP hS (fun H locs hP hS => ?_)
  refine lv_aload_n hx hb dX7_next_0 rfl (lv_at hl 0 rfl) ?_
  refine lv_aload_n hx hb dX7_next_1 rfl (lv_at hl 0 rfl) ?_
  refine va_get (D := (dC, dI)) (ci := 7) (v := .int (gMW_pc u)) (C := RX7) (T := TX7) (N := 30) hx hb hts iX7_next_X7 hown hK hP 0 rfl rfl 9 (by decide) (hts _ qX7_next_0) (fun _ h9 => h9) rfl dX7_next_2 ?_
  obtain ⟨hPc, hDc, hFc⟩ := xM_M hP hD hS hA
  have hKc := hK.sub (tys' := [(cI, .int)]) [0] rfl
  refine va_calli (va_runV (As := [.int (gMW_pc u)]) (rest := []) ⟨hx, hb, hml, hown, hts⟩ (k_X7_get l dC dI cI mO memA dskA rgA inA outA H.size u (gMW_pc u)) (cwV 1 hts gX7_next_X7_get rfl rfl rfl (by decide +kernel) ⟨Nat.le_of_ble_eq_true rfl, Nat.le_of_ble_eq_true rfl⟩) ⟨fun a U g mk q => by obtain ⟨q0, q1, qP, qK, qD⟩ := q; exact ⟨q0, q1, qP, va_K.moved (u := U) (U := U.calling g mk a) (Vm.Alike.refl U.vm) qK, qD⟩, va_recv hKc hPc (ci := 7) (q0 := 0) rfl rfl, fun U hU hW => ⟨rfl, by rw [hU], by rw [hU]; exact hPc, va_K.moved hW.alike hKc, hDc.weaken (fun _ _ _ _ => trivial)⟩⟩ rfl rfl hl.1 rfl (lv_room (Nat.le_of_ble_eq_true rfl)) dX7_next_5 ⟨Nat.le_of_ble_eq_true rfl, Nat.le_of_ble_eq_true rfl⟩) hS (fun q _ h => hFc q h) hFc (fun r9 u9 t H1 locs ht hvm hw hB hz1 hk1 hS => ?_)
  obtain ⟨hw1, hw2⟩ := hw
  have hw2 := hw2.symm
  subst hw1 hw2
  obtain ⟨hP1, hK1, hD1⟩ := hB
  rw [ht] at hP1
  obtain ⟨hP, hD⟩ := jM_M0 hP hD hk1 hFc hP1 hD1
  clear hPc hDc hKc hFc hz1 hk1 hP1 hK1 hD1 ht hvm
  generalize H1 = H at hP hS ⊢
  refine lv_istore_n (lv' := [(1, .int (f_X7_get u (gMW_pc u))), (0, .ref mO)]) hx hb dX7_next_8 rfl hl (by decide) rfl (fun ls hl => ?_)
  refine lv_aload_n hx hb dX7_next_9 rfl (lv_at hl 1 rfl) ?_
  refine lv_aload_n hx hb dX7_next_10 rfl (lv_at hl 1 rfl) ?_
  refine va_get (D := (dC, dI)) (ci := 7) (v := .int (gMW_pc u)) (C := RX7) (T := TX7) (N := 30) hx hb hts iX7_next_X7 hown hK hP 0 rfl rfl 9 (by decide) (hts _ qX7_next_0) (fun _ h9 => h9) rfl dX7_next_11 ?_
  refine lv_iconst (v := 1) hx hb dX7_next_14 (by decide) ?_
  refine lv_iadd hx hb dX7_next_15 ?_
  refine lv_ldc (v := 65535) hx hb hown (hts _ qX7_next_1) dX7_next_16 ?_
  refine lv_iand hx hb dX7_next_18 ?_
  refine va_put (D := (dC, dI)) (ci := 7) (v := .int (((gMW_pc u) + (1 : Int32)) &&& (65535 : Int32))) (ty := .int) (C := RX7) (T := TX7) (N := 30) hx hb hts iX7_next_X7 tyX7 tyX7_ok nmX7 hown hK hP hD hS 0 rfl rfl 9 (by decide) (hts _ qX7_next_0) (fun _ h9 => h9) rfl (by decide +kernel) rfl rfl (Nat.le_of_ble_eq_true rfl) dX7_next_19 (fun H locs hP hD hS => ?_)
  obtain ⟨hP, hD⟩ := pM_pc hP hD
  refine lv_iload_n hx hb dX7_next_22 rfl (lv_at hl 0 rfl) ?_
  exact W.iret (v := (f_X7_get u (gMW_pc u))) hx hb hr (fun t ht hW => ⟨⟨(f_X7_get u (gMW_pc u)), (sMW_pc u (((gMW_pc u) + (1 : Int32)) &&& (65535 : Int32))), rfl, ⟨rfl, rfl⟩, by rw [ht]; exact hP, va_K.moved hW.alike hK, hD⟩, hS.F ht⟩) hS.2.2 dX7_next_23

def f_X7_nextWord (u : MW) : Int32 × MW := (((f_X7_next u).1 ||| ((f_X7_next (f_X7_next u).2).1 <<< ((8 : Int32) &&& 31))), (f_X7_next (f_X7_next u).2).2)

set_option maxHeartbeats 4000000 in
set_option maxRecDepth 100000 in
theorem k_X7_nextWord (l : Launch) (dC : Nat → ClassId) (dI : Nat → Nat → Nat) (cI : ClassId) (mO memA dskA rgA inA outA : Nat) (sz : Nat) (u : MW) : Met l yX7_nextWord wsX7_nextWord ({ frames := 2, cells := 0, slots := 0, locals := 42 }) (va_Pc [.ref mO] (wB dC dI [(cI, .int)] sz (wM cI mO memA dskA rgA inA outA u))) (va_Qi (fun (r : Int32) (u' : MW) => r = (f_X7_nextWord u).1 ∧ u' = (f_X7_nextWord u).2) (fun u' => wE dC dI [(cI, .int)] (va_A (wM cI mO memA dskA rgA inA outA u) sz) (wM cI mO memA dskA rgA inA outA u')) (va_A (wM cI mO memA dskA rgA inA outA u) sz)) 0 0 (va_A (wM cI mO memA dskA rgA inA outA u) sz) := by
  refine Met.ofW (cc := cX7_nextWord) (maxL := 2) (ret := (some .int)) (by decide) rfl ?_
  intro p e s m args below meth c s₁ B hml hv
  obtain ⟨rfl, hsz, hP, hK, hD0⟩ := hv
  have hx := B.exec
  have hb := B.bytes
  have hr := B.returns
  have hts := atoms_spec (ws := wsX7_nextWord) B.pre
  have hown : s.vm.findClass RX7 = some m.cls := findClass_of_methodNamed B.named
  have hlocks := B.notSynchronized
  subst hsz
  have hD := hD0.self (sz := s.heap.size)
  generalize hAe : va_A (wM cI mO memA dskA rgA inA outA u) s.heap.size = A at hD ⊢
  have hA : ∀ q : Nat, s.heap.size ≤ q → A q := fun q h => by rw [← hAe]; exact Or.inr h
  have hS : va_S A s.heap s.heap [] := va_S.rf
  have hP : va_P (dC, dI) vwCl (wM cI mO memA dskA rgA inA outA u) s.heap := hP
  clear hAe hD0
  have hl := lv_entry ([.ref mO]) (n := 2) (Nat.le_of_ble_eq_true rfl)
  rw [lg_entry_eq]
  generalize (lg_sl ([.ref mO]) ++ List.replicate (2 - (lg_sl ([.ref mO])).length) Slot.unset).toArray = ls at hl ⊢
  have hl : lv_has ls 2 [(0, .ref mO)] := hl
  refine jn_H hP hS (fun H locs hP hS => ?_)
  refine lv_aload_n hx hb dX7_nextWord_0 rfl (lv_at hl 0 rfl) ?_
  obtain ⟨hPc, hDc, hFc⟩ := xM_M hP hD hS hA
  have hKc := hK.sub (tys' := [(cI, .int)]) [0] rfl
  refine va_calli (va_runV (As := []) (rest := []) ⟨hx, hb, hml, hown, hts⟩ (k_X7_next l dC dI cI mO memA dskA rgA inA outA H.size u) (cwV 0 hts gX7_nextWord_X7_next rfl rfl rfl (by decide +kernel) ⟨Nat.le_of_ble_eq_true rfl, Nat.le_of_ble_eq_true rfl⟩) ⟨fun a U g mk q => by obtain ⟨q0, q1, qP, qK, qD⟩ := q; exact ⟨q0, q1, qP, va_K.moved (u := U) (U := U.calling g mk a) (Vm.Alike.refl U.vm) qK, qD⟩, va_recv hKc hPc (ci := 7) (q0 := 0) rfl rfl, fun U hU hW => ⟨rfl, by rw [hU], by rw [hU]; exact hPc, va_K.moved hW.alike hKc, hDc.weaken (fun _ _ _ _ => trivial)⟩⟩ rfl rfl hl.1 rfl (lv_room (Nat.le_of_ble_eq_true rfl)) dX7_nextWord_1 ⟨Nat.le_of_ble_eq_true rfl, Nat.le_of_ble_eq_true rfl⟩) hS (fun q _ h => hFc q h) hFc (fun r9 u9 t H1 locs ht hvm hw hB hz1 hk1 hS => ?_)
  obtain ⟨rfl, rfl⟩ := hw
  obtain ⟨hP1, hK1, hD1⟩ := hB
  rw [ht] at hP1
  obtain ⟨hP, hD⟩ := jM_M hP hD hk1 hFc hP1 hD1
  clear hPc hDc hKc hFc hz1 hk1 hP1 hK1 hD1 ht hvm
  generalize H1 = H at hP hS ⊢
  refine lv_istore_n (lv' := [(1, .int (f_X7_next u).1), (0, .ref mO)]) hx hb dX7_nextWord_4 rfl hl (by decide) rfl (fun ls hl => ?_)
  refine lv_iload_n hx hb dX7_nextWord_5 rfl (lv_at hl 0 rfl) ?_
  refine lv_aload_n hx hb dX7_nextWord_6 rfl (lv_at hl 1 rfl) ?_
  obtain ⟨hPc, hDc, hFc⟩ := xM_M hP hD hS hA
  have hKc := hK.sub (tys' := [(cI, .int)]) [0] rfl
  refine va_calli (va_runV (As := []) (rest := [.int (f_X7_next u).1]) ⟨hx, hb, hml, hown, hts⟩ (k_X7_next l dC dI cI mO memA dskA rgA inA outA H.size (f_X7_next u).2) (cwV 0 hts gX7_nextWord_X7_next rfl rfl rfl (by decide +kernel) ⟨Nat.le_of_ble_eq_true rfl, Nat.le_of_ble_eq_true rfl⟩) ⟨fun a U g mk q => by obtain ⟨q0, q1, qP, qK, qD⟩ := q; exact ⟨q0, q1, qP, va_K.moved (u := U) (U := U.calling g mk a) (Vm.Alike.refl U.vm) qK, qD⟩, va_recv hKc hPc (ci := 7) (q0 := 0) rfl rfl, fun U hU hW => ⟨rfl, by rw [hU], by rw [hU]; exact hPc, va_K.moved hW.alike hKc, hDc.weaken (fun _ _ _ _ => trivial)⟩⟩ rfl rfl hl.1 rfl (lv_room (Nat.le_of_ble_eq_true rfl)) dX7_nextWord_7 ⟨Nat.le_of_ble_eq_true rfl, Nat.le_of_ble_eq_true rfl⟩) hS (fun q _ h => hFc q h) hFc (fun r9 u9 t H1 locs ht hvm hw hB hz1 hk1 hS => ?_)
  obtain ⟨rfl, rfl⟩ := hw
  obtain ⟨hP1, hK1, hD1⟩ := hB
  rw [ht] at hP1
  obtain ⟨hP, hD⟩ := jM_M hP hD hk1 hFc hP1 hD1
  clear hPc hDc hKc hFc hz1 hk1 hP1 hK1 hD1 ht hvm
  generalize H1 = H at hP hS ⊢
  refine lv_bipush (v := 8) hx hb dX7_nextWord_10 (by decide) ?_
  refine lv_ishl hx hb dX7_nextWord_12 ?_
  refine lv_ior hx hb dX7_nextWord_13 ?_
  exact W.iret (v := ((f_X7_next u).1 ||| ((f_X7_next (f_X7_next u).2).1 <<< ((8 : Int32) &&& 31)))) hx hb hr (fun t ht hW => ⟨⟨((f_X7_next u).1 ||| ((f_X7_next (f_X7_next u).2).1 <<< ((8 : Int32) &&& 31))), (f_X7_next (f_X7_next u).2).2, rfl, ⟨rfl, rfl⟩, by rw [ht]; exact hP, va_K.moved hW.alike hK, hD⟩, hS.F ht⟩) hS.2.2 dX7_nextWord_14

def f_X7_push (u : MW) (a1 : Int32) : MW := (f_X7_setWord (sMW_sp u (((gMW_sp u) - (2 : Int32)) &&& (65535 : Int32))) (gMW_sp (sMW_sp u (((gMW_sp u) - (2 : Int32)) &&& (65535 : Int32)))) a1)
theorem qX7_push_0 : Cond.fieldLink RX7 55 "DiskMachineModel" "sp" "I" ∈ wsX7_push := by decide +kernel
theorem qX7_push_1 : Cond.constant RX7 50 (65535) ∈ wsX7_push := by decide +kernel
theorem iX7_push_X7 : ∀ w ∈ wsX70, w ∈ wsX7_push := by decide +kernel
set_option maxHeartbeats 4000000 in
set_option maxRecDepth 100000 in
theorem k_X7_push (l : Launch) (dC : Nat → ClassId) (dI : Nat → Nat → Nat) (cI : ClassId) (mO memA dskA rgA inA outA : Nat) (sz : Nat) (u : MW) (a1 : Int32) : Met l yX7_push wsX7_push ({ frames := 2, cells := 0, slots := 0, locals := 44 }) (va_Pc [.ref mO, .int a1] (wB dC dI [(cI, .int)] sz (wM cI mO memA dskA rgA inA outA u))) (va_Qv (fun u' : MW => u' = (f_X7_push u a1)) (fun u' => wE dC dI [(cI, .int)] (va_A (wM cI mO memA dskA rgA inA outA u) sz) (wM cI mO memA dskA rgA inA outA u')) (va_A (wM cI mO memA dskA rgA inA outA u) sz)) 0 0 (va_A (wM cI mO memA dskA rgA inA outA u) sz) := by
  refine Met.ofW (cc := cX7_push) (maxL := 2) (ret := none) (by decide) rfl ?_
  intro p e s m args below meth c s₁ B hml hv
  obtain ⟨rfl, hsz, hP, hK, hD0⟩ := hv
  have hx := B.exec
  have hb := B.bytes
  have hr := B.returns
  have hts := atoms_spec (ws := wsX7_push) B.pre
  have hown : s.vm.findClass RX7 = some m.cls := findClass_of_methodNamed B.named
  have hlocks := B.notSynchronized
  subst hsz
  have hD := hD0.self (sz := s.heap.size)
  generalize hAe : va_A (wM cI mO memA dskA rgA inA outA u) s.heap.size = A at hD ⊢
  have hA : ∀ q : Nat, s.heap.size ≤ q → A q := fun q h => by rw [← hAe]; exact Or.inr h
  have hS : va_S A s.heap s.heap [] := va_S.rf
  have hP : va_P (dC, dI) vwCl (wM cI mO memA dskA rgA inA outA u) s.heap := hP
  clear hAe hD0
  have hl := lv_entry ([.ref mO, .int a1]) (n := 2) (Nat.le_of_ble_eq_true rfl)
  rw [lg_entry_eq]
  generalize (lg_sl ([.ref mO, .int a1]) ++ List.replicate (2 - (lg_sl ([.ref mO, .int a1])).length) Slot.unset).toArray = ls at hl ⊢
  have hl : lv_has ls 2 [(0, .ref mO), (1, .int a1)] := hl
  refine jn_H hP hS (fun H locs hP hS => ?_)
  refine lv_aload_n hx hb dX7_push_0 rfl (lv_at hl 0 rfl) ?_
  refine lv_aload_n hx hb dX7_push_1 rfl (lv_at hl 0 rfl) ?_
  refine va_get (D := (dC, dI)) (ci := 7) (v := .int (gMW_sp u)) (C := RX7) (T := TX7) (N := 30) hx hb hts iX7_push_X7 hown hK hP 0 rfl rfl 10 (by decide) (hts _ qX7_push_0) (fun _ h9 => h9) rfl dX7_push_2 ?_
  refine lv_iconst (v := 2) hx hb dX7_push_5 (by decide) ?_
  refine lv_isub hx hb dX7_push_6 ?_
  refine lv_ldc (v := 65535) hx hb hown (hts _ qX7_push_1) dX7_push_7 ?_
  refine lv_iand hx hb dX7_push_9 ?_
  refine va_put (D := (dC, dI)) (ci := 7) (v := .int (((gMW_sp u) - (2 : Int32)) &&& (65535 : Int32))) (ty := .int) (C := RX7) (T := TX7) (N := 30) hx hb hts iX7_push_X7 tyX7 tyX7_ok nmX7 hown hK hP hD hS 0 rfl rfl 10 (by decide) (hts _ qX7_push_0) (fun _ h9 => h9) rfl (by decide +kernel) rfl rfl (Nat.le_of_ble_eq_true rfl) dX7_push_10 (fun H locs hP hD hS => ?_)
  obtain ⟨hP, hD⟩ := pM_sp hP hD
  refine lv_aload_n hx hb dX7_push_13 rfl (lv_at hl 0 rfl) ?_
  refine lv_aload_n hx hb dX7_push_14 rfl (lv_at hl 0 rfl) ?_
  refine va_get (D := (dC, dI)) (ci := 7) (v := .int (gMW_sp (sMW_sp u (((gMW_sp u) - (2 : Int32)) &&& (65535 : Int32))))) (C := RX7) (T := TX7) (N := 30) hx hb hts iX7_push_X7 hown hK hP 0 rfl rfl 10 (by decide) (hts _ qX7_push_0) (fun _ h9 => h9) rfl dX7_push_15 ?_
  refine lv_iload_n hx hb dX7_push_18 rfl (lv_at hl 1 rfl) ?_
  obtain ⟨hPc, hDc, hFc⟩ := xM_M hP hD hS hA
  have hKc := hK.sub (tys' := [(cI, .int)]) [0] rfl
  refine va_callv (va_runV (As := [.int (gMW_sp (sMW_sp u (((gMW_sp u) - (2 : Int32)) &&& (65535 : Int32)))), .int a1]) (rest := []) ⟨hx, hb, hml, hown, hts⟩ (k_X7_setWord l dC dI cI mO memA dskA rgA inA outA H.size (sMW_sp u (((gMW_sp u) - (2 : Int32)) &&& (65535 : Int32))) (gMW_sp (sMW_sp u (((gMW_sp u) - (2 : Int32)) &&& (65535 : Int32)))) a1) (cwV 2 hts gX7_push_X7_setWord rfl rfl rfl (by decide +kernel) ⟨Nat.le_of_ble_eq_true rfl, Nat.le_of_ble_eq_true rfl⟩) ⟨fun a U g mk q => by obtain ⟨q0, q1, qP, qK, qD⟩ := q; exact ⟨q0, q1, qP, va_K.moved (u := U) (U := U.calling g mk a) (Vm.Alike.refl U.vm) qK, qD⟩, va_recv hKc hPc (ci := 7) (q0 := 0) rfl rfl, fun U hU hW => ⟨rfl, by rw [hU], by rw [hU]; exact hPc, va_K.moved hW.alike hKc, hDc.weaken (fun _ _ _ _ => trivial)⟩⟩ rfl rfl hl.1 rfl (lv_room (Nat.le_of_ble_eq_true rfl)) dX7_push_19 ⟨Nat.le_of_ble_eq_true rfl, Nat.le_of_ble_eq_true rfl⟩) hS (fun q _ h => hFc q h) hFc (fun u9 t H1 locs ht hvm hw hB hz1 hk1 hS => ?_)
  subst hw
  obtain ⟨hP1, hK1, hD1⟩ := hB
  rw [ht] at hP1
  obtain ⟨hP, hD⟩ := jM_M hP hD hk1 hFc hP1 hD1
  clear hPc hDc hKc hFc hz1 hk1 hP1 hK1 hD1 ht hvm
  generalize H1 = H at hP hS ⊢
  exact W.vret hx hb hr (fun t ht hW => ⟨⟨(f_X7_setWord (sMW_sp u (((gMW_sp u) - (2 : Int32)) &&& (65535 : Int32))) (gMW_sp (sMW_sp u (((gMW_sp u) - (2 : Int32)) &&& (65535 : Int32)))) a1), rfl, rfl, by rw [ht]; exact hP, va_K.moved hW.alike hK, hD⟩, hS.F ht⟩) hS.2.2 dX7_push_22

def f_X7_pop (u : MW) : Int32 × MW := ((f_X7_getWord u (gMW_sp u)), (sMW_sp u (((gMW_sp u) + (2 : Int32)) &&& (65535 : Int32))))
theorem qX7_pop_0 : Cond.fieldLink RX7 55 "DiskMachineModel" "sp" "I" ∈ wsX7_pop := by decide +kernel
theorem qX7_pop_1 : Cond.constant RX7 50 (65535) ∈ wsX7_pop := by decide +kernel
theorem iX7_pop_X7 : ∀ w ∈ wsX70, w ∈ wsX7_pop := by decide +kernel
set_option maxHeartbeats 4000000 in
set_option maxRecDepth 100000 in
theorem k_X7_pop (l : Launch) (dC : Nat → ClassId) (dI : Nat → Nat → Nat) (cI : ClassId) (mO memA dskA rgA inA outA : Nat) (sz : Nat) (u : MW) : Met l yX7_pop wsX7_pop ({ frames := 2, cells := 0, slots := 0, locals := 42 }) (va_Pc [.ref mO] (wB dC dI [(cI, .int)] sz (wM cI mO memA dskA rgA inA outA u))) (va_Qi (fun (r : Int32) (u' : MW) => r = (f_X7_pop u).1 ∧ u' = (f_X7_pop u).2) (fun u' => wE dC dI [(cI, .int)] (va_A (wM cI mO memA dskA rgA inA outA u) sz) (wM cI mO memA dskA rgA inA outA u')) (va_A (wM cI mO memA dskA rgA inA outA u) sz)) 0 0 (va_A (wM cI mO memA dskA rgA inA outA u) sz) := by
  refine Met.ofW (cc := cX7_pop) (maxL := 2) (ret := (some .int)) (by decide) rfl ?_
  intro p e s m args below meth c s₁ B hml hv
  obtain ⟨rfl, hsz, hP, hK, hD0⟩ := hv
  have hx := B.exec
  have hb := B.bytes
  have hr := B.returns
  have hts := atoms_spec (ws := wsX7_pop) B.pre
  have hown : s.vm.findClass RX7 = some m.cls := findClass_of_methodNamed B.named
  have hlocks := B.notSynchronized
  subst hsz
  have hD := hD0.self (sz := s.heap.size)
  generalize hAe : va_A (wM cI mO memA dskA rgA inA outA u) s.heap.size = A at hD ⊢
  have hA : ∀ q : Nat, s.heap.size ≤ q → A q := fun q h => by rw [← hAe]; exact Or.inr h
  have hS : va_S A s.heap s.heap [] := va_S.rf
  have hP : va_P (dC, dI) vwCl (wM cI mO memA dskA rgA inA outA u) s.heap := hP
  clear hAe hD0
  have hl := lv_entry ([.ref mO]) (n := 2) (Nat.le_of_ble_eq_true rfl)
  rw [lg_entry_eq]
  generalize (lg_sl ([.ref mO]) ++ List.replicate (2 - (lg_sl ([.ref mO])).length) Slot.unset).toArray = ls at hl ⊢
  have hl : lv_has ls 2 [(0, .ref mO)] := hl
  refine jn_H hP hS (fun H locs hP hS => ?_)
  refine lv_aload_n hx hb dX7_pop_0 rfl (lv_at hl 0 rfl) ?_
  refine lv_aload_n hx hb dX7_pop_1 rfl (lv_at hl 0 rfl) ?_
  refine va_get (D := (dC, dI)) (ci := 7) (v := .int (gMW_sp u)) (C := RX7) (T := TX7) (N := 30) hx hb hts iX7_pop_X7 hown hK hP 0 rfl rfl 10 (by decide) (hts _ qX7_pop_0) (fun _ h9 => h9) rfl dX7_pop_2 ?_
  obtain ⟨hPc, hDc, hFc⟩ := xM_M hP hD hS hA
  have hKc := hK.sub (tys' := [(cI, .int)]) [0] rfl
  refine va_calli (va_runV (As := [.int (gMW_sp u)]) (rest := []) ⟨hx, hb, hml, hown, hts⟩ (k_X7_getWord l dC dI cI mO memA dskA rgA inA outA H.size u (gMW_sp u)) (cwV 1 hts gX7_pop_X7_getWord rfl rfl rfl (by decide +kernel) ⟨Nat.le_of_ble_eq_true rfl, Nat.le_of_ble_eq_true rfl⟩) ⟨fun a U g mk q => by obtain ⟨q0, q1, qP, qK, qD⟩ := q; exact ⟨q0, q1, qP, va_K.moved (u := U) (U := U.calling g mk a) (Vm.Alike.refl U.vm) qK, qD⟩, va_recv hKc hPc (ci := 7) (q0 := 0) rfl rfl, fun U hU hW => ⟨rfl, by rw [hU], by rw [hU]; exact hPc, va_K.moved hW.alike hKc, hDc.weaken (fun _ _ _ _ => trivial)⟩⟩ rfl rfl hl.1 rfl (lv_room (Nat.le_of_ble_eq_true rfl)) dX7_pop_5 ⟨Nat.le_of_ble_eq_true rfl, Nat.le_of_ble_eq_true rfl⟩) hS (fun q _ h => hFc q h) hFc (fun r9 u9 t H1 locs ht hvm hw hB hz1 hk1 hS => ?_)
  obtain ⟨hw1, hw2⟩ := hw
  have hw2 := hw2.symm
  subst hw1 hw2
  obtain ⟨hP1, hK1, hD1⟩ := hB
  rw [ht] at hP1
  obtain ⟨hP, hD⟩ := jM_M0 hP hD hk1 hFc hP1 hD1
  clear hPc hDc hKc hFc hz1 hk1 hP1 hK1 hD1 ht hvm
  generalize H1 = H at hP hS ⊢
  refine lv_istore_n (lv' := [(1, .int (f_X7_getWord u (gMW_sp u))), (0, .ref mO)]) hx hb dX7_pop_8 rfl hl (by decide) rfl (fun ls hl => ?_)
  refine lv_aload_n hx hb dX7_pop_9 rfl (lv_at hl 1 rfl) ?_
  refine lv_aload_n hx hb dX7_pop_10 rfl (lv_at hl 1 rfl) ?_
  refine va_get (D := (dC, dI)) (ci := 7) (v := .int (gMW_sp u)) (C := RX7) (T := TX7) (N := 30) hx hb hts iX7_pop_X7 hown hK hP 0 rfl rfl 10 (by decide) (hts _ qX7_pop_0) (fun _ h9 => h9) rfl dX7_pop_11 ?_
  refine lv_iconst (v := 2) hx hb dX7_pop_14 (by decide) ?_
  refine lv_iadd hx hb dX7_pop_15 ?_
  refine lv_ldc (v := 65535) hx hb hown (hts _ qX7_pop_1) dX7_pop_16 ?_
  refine lv_iand hx hb dX7_pop_18 ?_
  refine va_put (D := (dC, dI)) (ci := 7) (v := .int (((gMW_sp u) + (2 : Int32)) &&& (65535 : Int32))) (ty := .int) (C := RX7) (T := TX7) (N := 30) hx hb hts iX7_pop_X7 tyX7 tyX7_ok nmX7 hown hK hP hD hS 0 rfl rfl 10 (by decide) (hts _ qX7_pop_0) (fun _ h9 => h9) rfl (by decide +kernel) rfl rfl (Nat.le_of_ble_eq_true rfl) dX7_pop_19 (fun H locs hP hD hS => ?_)
  obtain ⟨hP, hD⟩ := pM_sp hP hD
  refine lv_iload_n hx hb dX7_pop_22 rfl (lv_at hl 0 rfl) ?_
  exact W.iret (v := (f_X7_getWord u (gMW_sp u))) hx hb hr (fun t ht hW => ⟨⟨(f_X7_getWord u (gMW_sp u)), (sMW_sp u (((gMW_sp u) + (2 : Int32)) &&& (65535 : Int32))), rfl, ⟨rfl, rfl⟩, by rw [ht]; exact hP, va_K.moved hW.alike hK, hD⟩, hS.F ht⟩) hS.2.2 dX7_pop_23

def f_X7_hl (u : MW) : Int32 := ((((gMW_r u) (4 : Int32).toNatClampNeg) <<< ((8 : Int32) &&& 31)) ||| ((gMW_r u) (5 : Int32).toNatClampNeg))
theorem qX7_hl_0 : Cond.fieldLink RX7 16 "DiskMachineModel" "\x72" "[I" ∈ wsX7_hl := by decide +kernel
theorem iX7_hl_X7 : ∀ w ∈ wsX70, w ∈ wsX7_hl := by decide +kernel
set_option maxHeartbeats 4000000 in
set_option maxRecDepth 100000 in
theorem k_X7_hl (l : Launch) (dC : Nat → ClassId) (dI : Nat → Nat → Nat) (cI : ClassId) (mO memA dskA rgA inA outA : Nat) (sz : Nat) (u : MW) : Met l yX7_hl wsX7_hl ({ frames := 0, cells := 0, slots := 0, locals := 0 }) (va_Pc [.ref mO] (wB dC dI [(cI, .int)] sz (wM cI mO memA dskA rgA inA outA u))) (va_Qi (fun (r : Int32) (u' : MW) => r = (f_X7_hl u) ∧ u' = u) (fun u' => wE dC dI [(cI, .int)] (va_A (wM cI mO memA dskA rgA inA outA u) sz) (wM cI mO memA dskA rgA inA outA u')) (va_A (wM cI mO memA dskA rgA inA outA u) sz)) 0 0 (va_A (wM cI mO memA dskA rgA inA outA u) sz) := by
  refine Met.ofW (cc := cX7_hl) (maxL := 1) (ret := (some .int)) (by decide) rfl ?_
  intro p e s m args below meth c s₁ B hml hv
  obtain ⟨rfl, hsz, hP, hK, hD0⟩ := hv
  have hx := B.exec
  have hb := B.bytes
  have hr := B.returns
  have hts := atoms_spec (ws := wsX7_hl) B.pre
  have hown : s.vm.findClass RX7 = some m.cls := findClass_of_methodNamed B.named
  have hlocks := B.notSynchronized
  subst hsz
  have hD := hD0.self (sz := s.heap.size)
  generalize hAe : va_A (wM cI mO memA dskA rgA inA outA u) s.heap.size = A at hD ⊢
  have hA : ∀ q : Nat, s.heap.size ≤ q → A q := fun q h => by rw [← hAe]; exact Or.inr h
  have hS : va_S A s.heap s.heap [] := va_S.rf
  have hP : va_P (dC, dI) vwCl (wM cI mO memA dskA rgA inA outA u) s.heap := hP
  clear hAe hD0
  have hl := lv_entry ([.ref mO]) (n := 1) (Nat.le_of_ble_eq_true rfl)
  rw [lg_entry_eq]
  generalize (lg_sl ([.ref mO]) ++ List.replicate (1 - (lg_sl ([.ref mO])).length) Slot.unset).toArray = ls at hl ⊢
  have hl : lv_has ls 1 [(0, .ref mO)] := hl
  refine jn_H hP hS (fun H locs hP hS => ?_)
  refine lv_aload_n hx hb dX7_hl_0 rfl (lv_at hl 0 rfl) ?_
  refine va_get (D := (dC, dI)) (ci := 7) (v := .ref rgA) (C := RX7) (T := TX7) (N := 30) hx hb hts iX7_hl_X7 hown hK hP 0 rfl rfl 3 (by decide) (hts _ qX7_hl_0) (fun _ h9 => h9) rfl dX7_hl_1 ?_
  refine lv_iconst (v := 4) hx hb dX7_hl_4 (by decide) ?_
  refine va_iald (f := (gMW_r u)) hx hb hK hP 3 0 rfl rfl (ix_lit (by decide)) dX7_hl_5 ?_
  refine lv_bipush (v := 8) hx hb dX7_hl_6 (by decide) ?_
  refine lv_ishl hx hb dX7_hl_8 ?_
  refine lv_aload_n hx hb dX7_hl_9 rfl (lv_at hl 0 rfl) ?_
  refine va_get (D := (dC, dI)) (ci := 7) (v := .ref rgA) (C := RX7) (T := TX7) (N := 30) hx hb hts iX7_hl_X7 hown hK hP 0 rfl rfl 3 (by decide) (hts _ qX7_hl_0) (fun _ h9 => h9) rfl dX7_hl_10 ?_
  refine lv_iconst (v := 5) hx hb dX7_hl_13 (by decide) ?_
  refine va_iald (f := (gMW_r u)) hx hb hK hP 3 0 rfl rfl (ix_lit (by decide)) dX7_hl_14 ?_
  refine lv_ior hx hb dX7_hl_15 ?_
  exact W.iret (v := ((((gMW_r u) (4 : Int32).toNatClampNeg) <<< ((8 : Int32) &&& 31)) ||| ((gMW_r u) (5 : Int32).toNatClampNeg))) hx hb hr (fun t ht hW => ⟨⟨((((gMW_r u) (4 : Int32).toNatClampNeg) <<< ((8 : Int32) &&& 31)) ||| ((gMW_r u) (5 : Int32).toNatClampNeg)), u, rfl, ⟨rfl, rfl⟩, by rw [ht]; exact hP, va_K.moved hW.alike hK, hD⟩, hS.F ht⟩) hS.2.2 dX7_hl_16

def f_X7_pair (u : MW) (a1 : Int32) : Int32 := (if a1 = (3 : Int32) then (gMW_sp u) else ((((gMW_r u) (((2 : Int32) * a1) : Int32).toNatClampNeg) <<< ((8 : Int32) &&& 31)) ||| ((gMW_r u) ((((2 : Int32) * a1) + (1 : Int32)) : Int32).toNatClampNeg)) : Int32)
theorem qX7_pair_0 : Cond.fieldLink RX7 16 "DiskMachineModel" "\x72" "[I" ∈ wsX7_pair := by decide +kernel
theorem qX7_pair_1 : Cond.fieldLink RX7 55 "DiskMachineModel" "sp" "I" ∈ wsX7_pair := by decide +kernel
theorem iX7_pair_X7 : ∀ w ∈ wsX70, w ∈ wsX7_pair := by decide +kernel
set_option maxHeartbeats 4000000 in
set_option maxRecDepth 100000 in
theorem k_X7_pair (l : Launch) (dC : Nat → ClassId) (dI : Nat → Nat → Nat) (cI : ClassId) (mO memA dskA rgA inA outA : Nat) (sz : Nat) (u : MW) (a1 : Int32) (h1 : vp_in a1 4) : Met l yX7_pair wsX7_pair ({ frames := 0, cells := 0, slots := 0, locals := 0 }) (va_Pc [.ref mO, .int a1] (wB dC dI [(cI, .int)] sz (wM cI mO memA dskA rgA inA outA u))) (va_Qi (fun (r : Int32) (u' : MW) => r = (f_X7_pair u a1) ∧ u' = u) (fun u' => wE dC dI [(cI, .int)] (va_A (wM cI mO memA dskA rgA inA outA u) sz) (wM cI mO memA dskA rgA inA outA u')) (va_A (wM cI mO memA dskA rgA inA outA u) sz)) 0 0 (va_A (wM cI mO memA dskA rgA inA outA u) sz) := by
  refine Met.ofW (cc := cX7_pair) (maxL := 2) (ret := (some .int)) (by decide) rfl ?_
  intro p e s m args below meth c s₁ B hml hv
  obtain ⟨rfl, hsz, hP, hK, hD0⟩ := hv
  have hx := B.exec
  have hb := B.bytes
  have hr := B.returns
  have hts := atoms_spec (ws := wsX7_pair) B.pre
  have hown : s.vm.findClass RX7 = some m.cls := findClass_of_methodNamed B.named
  have hlocks := B.notSynchronized
  subst hsz
  have hD := hD0.self (sz := s.heap.size)
  generalize hAe : va_A (wM cI mO memA dskA rgA inA outA u) s.heap.size = A at hD ⊢
  have hA : ∀ q : Nat, s.heap.size ≤ q → A q := fun q h => by rw [← hAe]; exact Or.inr h
  have hS : va_S A s.heap s.heap [] := va_S.rf
  have hP : va_P (dC, dI) vwCl (wM cI mO memA dskA rgA inA outA u) s.heap := hP
  clear hAe hD0
  have hl := lv_entry ([.ref mO, .int a1]) (n := 2) (Nat.le_of_ble_eq_true rfl)
  rw [lg_entry_eq]
  generalize (lg_sl ([.ref mO, .int a1]) ++ List.replicate (2 - (lg_sl ([.ref mO, .int a1])).length) Slot.unset).toArray = ls at hl ⊢
  have hl : lv_has ls 2 [(0, .ref mO), (1, .int a1)] := hl
  refine jn_H hP hS (fun H locs hP hS => ?_)
  refine lv_iload_n hx hb dX7_pair_0 rfl (lv_at hl 1 rfl) ?_
  refine lv_iconst (v := 3) hx hb dX7_pair_1 (by decide) ?_
  refine jn_i (D := (dC, dI)) (cl := vwCl) (ws := (wM cI mO memA dskA rgA inA outA u)) (A := A) (H0 := s.heap) (nL := 2) 34 (if a1 = (3 : Int32) then (gMW_sp u) else ((((gMW_r u) (((2 : Int32) * a1) : Int32).toNatClampNeg) <<< ((8 : Int32) &&& 31)) ||| ((gMW_r u) ((((2 : Int32) * a1) + (1 : Int32)) : Int32).toNatClampNeg)) : Int32) [(0, .ref mO), (1, .int a1)] [] (fun H locs ls hP hS hl => ?_) (fun hJ1 => ?_)
  · skip
    exact W.iret (v := (if a1 = (3 : Int32) then (gMW_sp u) else ((((gMW_r u) (((2 : Int32) * a1) : Int32).toNatClampNeg) <<< ((8 : Int32) &&& 31)) ||| ((gMW_r u) ((((2 : Int32) * a1) + (1 : Int32)) : Int32).toNatClampNeg)) : Int32)) hx hb hr (fun t ht hW => ⟨⟨(if a1 = (3 : Int32) then (gMW_sp u) else ((((gMW_r u) (((2 : Int32) * a1) : Int32).toNatClampNeg) <<< ((8 : Int32) &&& 31)) ||| ((gMW_r u) ((((2 : Int32) * a1) + (1 : Int32)) : Int32).toNatClampNeg)) : Int32), u, rfl, ⟨rfl, rfl⟩, by rw [ht]; exact hP, va_K.moved hW.alike hK, hD⟩, hS.F ht⟩) hS.2.2 dX7_pair_34
  · skip
    refine lv_icmp_ne (tgt := 12) hx hb dX7_pair_2 (by decide) (fun c2 => ?_) (fun c2 => ?_)
    · skip
      refine lv_aload_n hx hb dX7_pair_12 rfl (lv_at hl 0 rfl) ?_
      refine va_get (D := (dC, dI)) (ci := 7) (v := .ref rgA) (C := RX7) (T := TX7) (N := 30) hx hb hts iX7_pair_X7 hown hK hP 0 rfl rfl 3 (by decide) (hts _ qX7_pair_0) (fun _ h9 => h9) rfl dX7_pair_13 ?_
      refine lv_iconst (v := 2) hx hb dX7_pair_16 (by decide) ?_
      refine lv_iload_n hx hb dX7_pair_17 rfl (lv_at hl 1 rfl) ?_
      refine lv_imul hx hb dX7_pair_18 ?_
      refine va_iald (f := (gMW_r u)) hx hb hK hP 3 0 rfl rfl (ix_2p h1) dX7_pair_19 ?_
      refine lv_bipush (v := 8) hx hb dX7_pair_20 (by decide) ?_
      refine lv_ishl hx hb dX7_pair_22 ?_
      refine lv_aload_n hx hb dX7_pair_23 rfl (lv_at hl 0 rfl) ?_
      refine va_get (D := (dC, dI)) (ci := 7) (v := .ref rgA) (C := RX7) (T := TX7) (N := 30) hx hb hts iX7_pair_X7 hown hK hP 0 rfl rfl 3 (by decide) (hts _ qX7_pair_0) (fun _ h9 => h9) rfl dX7_pair_24 ?_
      refine lv_iconst (v := 2) hx hb dX7_pair_27 (by decide) ?_
      refine lv_iload_n hx hb dX7_pair_28 rfl (lv_at hl 1 rfl) ?_
      refine lv_imul hx hb dX7_pair_29 ?_
      refine lv_iconst (v := 1) hx hb dX7_pair_30 (by decide) ?_
      refine lv_iadd hx hb dX7_pair_31 ?_
      refine va_iald (f := (gMW_r u)) hx hb hK hP 3 0 rfl rfl (ix_2p1 h1) dX7_pair_32 ?_
      refine lv_ior hx hb dX7_pair_33 ?_
      exact hJ1 ((((gMW_r u) (((2 : Int32) * a1) : Int32).toNatClampNeg) <<< ((8 : Int32) &&& 31)) ||| ((gMW_r u) ((((2 : Int32) * a1) + (1 : Int32)) : Int32).toNatClampNeg)) _ _ _ (by simp only [if_neg c2]) hP hS (lv_sub hl [0, 1] rfl)
    · skip
      refine lv_aload_n hx hb dX7_pair_5 rfl (lv_at hl 0 rfl) ?_
      refine va_get (D := (dC, dI)) (ci := 7) (v := .int (gMW_sp u)) (C := RX7) (T := TX7) (N := 30) hx hb hts iX7_pair_X7 hown hK hP 0 rfl rfl 10 (by decide) (hts _ qX7_pair_1) (fun _ h9 => h9) rfl dX7_pair_6 ?_
      refine lv_goto (tgt := 34) hx hb dX7_pair_9 (by decide) ?_
      exact hJ1 (gMW_sp u) _ _ _ (by simp only [if_pos c2]) hP hS (lv_sub hl [0, 1] rfl)

def f_X7_setPair (u : MW) (a1 : Int32) (a2 : Int32) : MW := 
  if a1 = (3 : Int32) then (sMW_sp u (a2 &&& (65535 : Int32)))
  else (sMW_r (sMW_r u (upd (gMW_r u) (((2 : Int32) * a1) : Int32).toNatClampNeg ((a2 >>> ((8 : Int32) &&& 31)) &&& (255 : Int32)))) (upd (gMW_r (sMW_r u (upd (gMW_r u) (((2 : Int32) * a1) : Int32).toNatClampNeg ((a2 >>> ((8 : Int32) &&& 31)) &&& (255 : Int32))))) ((((2 : Int32) * a1) + (1 : Int32)) : Int32).toNatClampNeg (a2 &&& (255 : Int32))))
theorem qX7_setPair_0 : Cond.fieldLink RX7 16 "DiskMachineModel" "\x72" "[I" ∈ wsX7_setPair := by decide +kernel
theorem qX7_setPair_1 : Cond.constant RX7 50 (65535) ∈ wsX7_setPair := by decide +kernel
theorem qX7_setPair_2 : Cond.fieldLink RX7 55 "DiskMachineModel" "sp" "I" ∈ wsX7_setPair := by decide +kernel
theorem iX7_setPair_X7 : ∀ w ∈ wsX70, w ∈ wsX7_setPair := by decide +kernel
set_option maxHeartbeats 4000000 in
set_option maxRecDepth 100000 in
theorem k_X7_setPair (l : Launch) (dC : Nat → ClassId) (dI : Nat → Nat → Nat) (cI : ClassId) (mO memA dskA rgA inA outA : Nat) (sz : Nat) (u : MW) (a1 : Int32) (a2 : Int32) (h1 : vp_in a1 4) : Met l yX7_setPair wsX7_setPair ({ frames := 0, cells := 0, slots := 0, locals := 0 }) (va_Pc [.ref mO, .int a1, .int a2] (wB dC dI [(cI, .int)] sz (wM cI mO memA dskA rgA inA outA u))) (va_Qv (fun u' : MW => u' = (f_X7_setPair u a1 a2)) (fun u' => wE dC dI [(cI, .int)] (va_A (wM cI mO memA dskA rgA inA outA u) sz) (wM cI mO memA dskA rgA inA outA u')) (va_A (wM cI mO memA dskA rgA inA outA u) sz)) 0 0 (va_A (wM cI mO memA dskA rgA inA outA u) sz) := by
  refine Met.ofW (cc := cX7_setPair) (maxL := 3) (ret := none) (by decide) rfl ?_
  intro p e s m args below meth c s₁ B hml hv
  obtain ⟨rfl, hsz, hP, hK, hD0⟩ := hv
  have hx := B.exec
  have hb := B.bytes
  have hr := B.returns
  have hts := atoms_spec (ws := wsX7_setPair) B.pre
  have hown : s.vm.findClass RX7 = some m.cls := findClass_of_methodNamed B.named
  have hlocks := B.notSynchronized
  subst hsz
  have hD := hD0.self (sz := s.heap.size)
  generalize hAe : va_A (wM cI mO memA dskA rgA inA outA u) s.heap.size = A at hD ⊢
  have hA : ∀ q : Nat, s.heap.size ≤ q → A q := fun q h => by rw [← hAe]; exact Or.inr h
  have hS : va_S A s.heap s.heap [] := va_S.rf
  have hP : va_P (dC, dI) vwCl (wM cI mO memA dskA rgA inA outA u) s.heap := hP
  clear hAe hD0
  have hl := lv_entry ([.ref mO, .int a1, .int a2]) (n := 3) (Nat.le_of_ble_eq_true rfl)
  rw [lg_entry_eq]
  generalize (lg_sl ([.ref mO, .int a1, .int a2]) ++ List.replicate (3 - (lg_sl ([.ref mO, .int a1, .int a2])).length) Slot.unset).toArray = ls at hl ⊢
  have hl : lv_has ls 3 [(0, .ref mO), (1, .int a1), (2, .int a2)] := hl
  refine jn_H hP hS (fun H locs hP hS => ?_)
  refine lv_iload_n hx hb dX7_setPair_0 rfl (lv_at hl 1 rfl) ?_
  refine lv_iconst (v := 3) hx hb dX7_setPair_1 (by decide) ?_
  refine lv_icmp_ne (tgt := 16) hx hb dX7_setPair_2 (by decide) (fun c1 => ?_) (fun c1 => ?_)
  · skip
    refine lv_aload_n hx hb dX7_setPair_16 rfl (lv_at hl 0 rfl) ?_
    refine va_get (D := (dC, dI)) (ci := 7) (v := .ref rgA) (C := RX7) (T := TX7) (N := 30) hx hb hts iX7_setPair_X7 hown hK hP 0 rfl rfl 3 (by decide) (hts _ qX7_setPair_0) (fun _ h9 => h9) rfl dX7_setPair_17 ?_
    refine lv_iconst (v := 2) hx hb dX7_setPair_20 (by decide) ?_
    refine lv_iload_n hx hb dX7_setPair_21 rfl (lv_at hl 1 rfl) ?_
    refine lv_imul hx hb dX7_setPair_22 ?_
    refine lv_iload_n hx hb dX7_setPair_23 rfl (lv_at hl 2 rfl) ?_
    refine lv_bipush (v := 8) hx hb dX7_setPair_24 (by decide) ?_
    refine lv_ishr hx hb dX7_setPair_26 ?_
    refine lv_sipush (v := 255) hx hb dX7_setPair_27 (by decide) ?_
    refine lv_iand hx hb dX7_setPair_30 ?_
    refine va_iast (f := (gMW_r u)) hx hb hK hP hD hS 3 0 rfl rfl (ix_2p h1) dX7_setPair_31 (fun H locs hP hD hS => ?_)
    obtain ⟨hP, hD⟩ := aM_rgA hP hD
    refine lv_aload_n hx hb dX7_setPair_32 rfl (lv_at hl 0 rfl) ?_
    refine va_get (D := (dC, dI)) (ci := 7) (v := .ref rgA) (C := RX7) (T := TX7) (N := 30) hx hb hts iX7_setPair_X7 hown hK hP 0 rfl rfl 3 (by decide) (hts _ qX7_setPair_0) (fun _ h9 => h9) rfl dX7_setPair_33 ?_
    refine lv_iconst (v := 2) hx hb dX7_setPair_36 (by decide) ?_
    refine lv_iload_n hx hb dX7_setPair_37 rfl (lv_at hl 1 rfl) ?_
    refine lv_imul hx hb dX7_setPair_38 ?_
    refine lv_iconst (v := 1) hx hb dX7_setPair_39 (by decide) ?_
    refine lv_iadd hx hb dX7_setPair_40 ?_
    refine lv_iload_n hx hb dX7_setPair_41 rfl (lv_at hl 2 rfl) ?_
    refine lv_sipush (v := 255) hx hb dX7_setPair_42 (by decide) ?_
    refine lv_iand hx hb dX7_setPair_45 ?_
    refine va_iast (f := (gMW_r (sMW_r u (upd (gMW_r u) (((2 : Int32) * a1) : Int32).toNatClampNeg ((a2 >>> ((8 : Int32) &&& 31)) &&& (255 : Int32)))))) hx hb hK hP hD hS 3 0 rfl rfl (ix_2p1 h1) dX7_setPair_46 (fun H locs hP hD hS => ?_)
    obtain ⟨hP, hD⟩ := aM_rgA hP hD
    exact W.vret hx hb hr (fun t ht hW => ⟨⟨(sMW_r (sMW_r u (upd (gMW_r u) (((2 : Int32) * a1) : Int32).toNatClampNeg ((a2 >>> ((8 : Int32) &&& 31)) &&& (255 : Int32)))) (upd (gMW_r (sMW_r u (upd (gMW_r u) (((2 : Int32) * a1) : Int32).toNatClampNeg ((a2 >>> ((8 : Int32) &&& 31)) &&& (255 : Int32))))) ((((2 : Int32) * a1) + (1 : Int32)) : Int32).toNatClampNeg (a2 &&& (255 : Int32)))), rfl, (by simp only [f_X7_setPair, if_neg c1]), by rw [ht]; exact hP, va_K.moved hW.alike hK, hD⟩, hS.F ht⟩) hS.2.2 dX7_setPair_47
  · skip
    refine lv_aload_n hx hb dX7_setPair_5 rfl (lv_at hl 0 rfl) ?_
    refine lv_iload_n hx hb dX7_setPair_6 rfl (lv_at hl 2 rfl) ?_
    refine lv_ldc (v := 65535) hx hb hown (hts _ qX7_setPair_1) dX7_setPair_7 ?_
    refine lv_iand hx hb dX7_setPair_9 ?_
    refine va_put (D := (dC, dI)) (ci := 7) (v := .int (a2 &&& (65535 : Int32))) (ty := .int) (C := RX7) (T := TX7) (N := 30) hx hb hts iX7_setPair_X7 tyX7 tyX7_ok nmX7 hown hK hP hD hS 0 rfl rfl 10 (by decide) (hts _ qX7_setPair_2) (fun _ h9 => h9) rfl (by decide +kernel) rfl rfl (Nat.le_of_ble_eq_true rfl) dX7_setPair_10 (fun H locs hP hD hS => ?_)
    obtain ⟨hP, hD⟩ := pM_sp hP hD
    refine lv_goto (tgt := 47) hx hb dX7_setPair_13 (by decide) ?_
    exact W.vret hx hb hr (fun t ht hW => ⟨⟨(sMW_sp u (a2 &&& (65535 : Int32))), rfl, (by simp only [f_X7_setPair, if_pos c1]), by rw [ht]; exact hP, va_K.moved hW.alike hK, hD⟩, hS.F ht⟩) hS.2.2 dX7_setPair_47

def f_X7_reg (u : MW) (a1 : Int32) : Int32 := (if a1 = (6 : Int32) then (f_X7_get u (f_X7_hl u)) else ((gMW_r u) (a1 : Int32).toNatClampNeg) : Int32)
theorem qX7_reg_0 : Cond.fieldLink RX7 16 "DiskMachineModel" "\x72" "[I" ∈ wsX7_reg := by decide +kernel
theorem iX7_reg_X7 : ∀ w ∈ wsX70, w ∈ wsX7_reg := by decide +kernel
set_option maxHeartbeats 4000000 in
set_option maxRecDepth 100000 in
theorem k_X7_reg (l : Launch) (dC : Nat → ClassId) (dI : Nat → Nat → Nat) (cI : ClassId) (mO memA dskA rgA inA outA : Nat) (sz : Nat) (u : MW) (a1 : Int32) (h1 : vp_in a1 8) : Met l yX7_reg wsX7_reg ({ frames := 1, cells := 0, slots := 0, locals := 21 }) (va_Pc [.ref mO, .int a1] (wB dC dI [(cI, .int)] sz (wM cI mO memA dskA rgA inA outA u))) (va_Qi (fun (r : Int32) (u' : MW) => r = (f_X7_reg u a1) ∧ u' = u) (fun u' => wE dC dI [(cI, .int)] (va_A (wM cI mO memA dskA rgA inA outA u) sz) (wM cI mO memA dskA rgA inA outA u')) (va_A (wM cI mO memA dskA rgA inA outA u) sz)) 0 0 (va_A (wM cI mO memA dskA rgA inA outA u) sz) := by
  refine Met.ofW (cc := cX7_reg) (maxL := 2) (ret := (some .int)) (by decide) rfl ?_
  intro p e s m args below meth c s₁ B hml hv
  obtain ⟨rfl, hsz, hP, hK, hD0⟩ := hv
  have hx := B.exec
  have hb := B.bytes
  have hr := B.returns
  have hts := atoms_spec (ws := wsX7_reg) B.pre
  have hown : s.vm.findClass RX7 = some m.cls := findClass_of_methodNamed B.named
  have hlocks := B.notSynchronized
  subst hsz
  have hD := hD0.self (sz := s.heap.size)
  generalize hAe : va_A (wM cI mO memA dskA rgA inA outA u) s.heap.size = A at hD ⊢
  have hA : ∀ q : Nat, s.heap.size ≤ q → A q := fun q h => by rw [← hAe]; exact Or.inr h
  have hS : va_S A s.heap s.heap [] := va_S.rf
  have hP : va_P (dC, dI) vwCl (wM cI mO memA dskA rgA inA outA u) s.heap := hP
  clear hAe hD0
  have hl := lv_entry ([.ref mO, .int a1]) (n := 2) (Nat.le_of_ble_eq_true rfl)
  rw [lg_entry_eq]
  generalize (lg_sl ([.ref mO, .int a1]) ++ List.replicate (2 - (lg_sl ([.ref mO, .int a1])).length) Slot.unset).toArray = ls at hl ⊢
  have hl : lv_has ls 2 [(0, .ref mO), (1, .int a1)] := hl
  refine jn_H hP hS (fun H locs hP hS => ?_)
  refine lv_iload_n hx hb dX7_reg_0 rfl (lv_at hl 1 rfl) ?_
  refine lv_bipush (v := 6) hx hb dX7_reg_1 (by decide) ?_
  refine jn_i (D := (dC, dI)) (cl := vwCl) (ws := (wM cI mO memA dskA rgA inA outA u)) (A := A) (H0 := s.heap) (nL := 2) 23 (if a1 = (6 : Int32) then (f_X7_get u (f_X7_hl u)) else ((gMW_r u) (a1 : Int32).toNatClampNeg) : Int32) [(0, .ref mO), (1, .int a1)] [] (fun H locs ls hP hS hl => ?_) (fun hJ1 => ?_)
  · skip
    exact W.iret (v := (if a1 = (6 : Int32) then (f_X7_get u (f_X7_hl u)) else ((gMW_r u) (a1 : Int32).toNatClampNeg) : Int32)) hx hb hr (fun t ht hW => ⟨⟨(if a1 = (6 : Int32) then (f_X7_get u (f_X7_hl u)) else ((gMW_r u) (a1 : Int32).toNatClampNeg) : Int32), u, rfl, ⟨rfl, rfl⟩, by rw [ht]; exact hP, va_K.moved hW.alike hK, hD⟩, hS.F ht⟩) hS.2.2 dX7_reg_23
  · skip
    refine lv_icmp_ne (tgt := 17) hx hb dX7_reg_3 (by decide) (fun c2 => ?_) (fun c2 => ?_)
    · skip
      refine lv_aload_n hx hb dX7_reg_17 rfl (lv_at hl 0 rfl) ?_
      refine va_get (D := (dC, dI)) (ci := 7) (v := .ref rgA) (C := RX7) (T := TX7) (N := 30) hx hb hts iX7_reg_X7 hown hK hP 0 rfl rfl 3 (by decide) (hts _ qX7_reg_0) (fun _ h9 => h9) rfl dX7_reg_18 ?_
      refine lv_iload_n hx hb dX7_reg_21 rfl (lv_at hl 1 rfl) ?_
      refine va_iald (f := (gMW_r u)) hx hb hK hP 3 0 rfl rfl h1 dX7_reg_22 ?_
      exact hJ1 ((gMW_r u) (a1 : Int32).toNatClampNeg) _ _ _ (by simp only [if_neg c2]) hP hS (lv_sub hl [0, 1] rfl)
    · skip
      refine lv_aload_n hx hb dX7_reg_6 rfl (lv_at hl 0 rfl) ?_
      refine lv_aload_n hx hb dX7_reg_7 rfl (lv_at hl 0 rfl) ?_
      obtain ⟨hPc, hDc, hFc⟩ := xM_M hP hD hS hA
      have hKc := hK.sub (tys' := [(cI, .int)]) [0] rfl
      refine va_calli (va_runV (As := []) (rest := [.ref mO]) ⟨hx, hb, hml, hown, hts⟩ (k_X7_hl l dC dI cI mO memA dskA rgA inA outA H.size u) (cwV 0 hts gX7_reg_X7_hl rfl rfl rfl (by decide +kernel) ⟨Nat.le_of_ble_eq_true rfl, Nat.le_of_ble_eq_true rfl⟩) ⟨fun a U g mk q => by obtain ⟨q0, q1, qP, qK, qD⟩ := q; exact ⟨q0, q1, qP, va_K.moved (u := U) (U := U.calling g mk a) (Vm.Alike.refl U.vm) qK, qD⟩, va_recv hKc hPc (ci := 7) (q0 := 0) rfl rfl, fun U hU hW => ⟨rfl, by rw [hU], by rw [hU]; exact hPc, va_K.moved hW.alike hKc, hDc.weaken (fun _ _ _ _ => trivial)⟩⟩ rfl rfl hl.1 rfl (lv_room (Nat.le_of_ble_eq_true rfl)) dX7_reg_8 ⟨Nat.le_of_ble_eq_true rfl, Nat.le_of_ble_eq_true rfl⟩) hS (fun q _ h => hFc q h) hFc (fun r9 u9 t H1 locs ht hvm hw hB hz1 hk1 hS => ?_)
      obtain ⟨hw1, hw2⟩ := hw
      have hw2 := hw2.symm
      subst hw1 hw2
      obtain ⟨hP1, hK1, hD1⟩ := hB
      rw [ht] at hP1
      obtain ⟨hP, hD⟩ := jM_M0 hP hD hk1 hFc hP1 hD1
      clear hPc hDc hKc hFc hz1 hk1 hP1 hK1 hD1 ht hvm
      generalize H1 = H at hP hS ⊢
      obtain ⟨hPc, hDc, hFc⟩ := xM_M hP hD hS hA
      have hKc := hK.sub (tys' := [(cI, .int)]) [0] rfl
      refine va_calli (va_runV (As := [.int (f_X7_hl u)]) (rest := []) ⟨hx, hb, hml, hown, hts⟩ (k_X7_get l dC dI cI mO memA dskA rgA inA outA H.size u (f_X7_hl u)) (cwV 1 hts gX7_reg_X7_get rfl rfl rfl (by decide +kernel) ⟨Nat.le_of_ble_eq_true rfl, Nat.le_of_ble_eq_true rfl⟩) ⟨fun a U g mk q => by obtain ⟨q0, q1, qP, qK, qD⟩ := q; exact ⟨q0, q1, qP, va_K.moved (u := U) (U := U.calling g mk a) (Vm.Alike.refl U.vm) qK, qD⟩, va_recv hKc hPc (ci := 7) (q0 := 0) rfl rfl, fun U hU hW => ⟨rfl, by rw [hU], by rw [hU]; exact hPc, va_K.moved hW.alike hKc, hDc.weaken (fun _ _ _ _ => trivial)⟩⟩ rfl rfl hl.1 rfl (lv_room (Nat.le_of_ble_eq_true rfl)) dX7_reg_11 ⟨Nat.le_of_ble_eq_true rfl, Nat.le_of_ble_eq_true rfl⟩) hS (fun q _ h => hFc q h) hFc (fun r9 u9 t H1 locs ht hvm hw hB hz1 hk1 hS => ?_)
      obtain ⟨hw1, hw2⟩ := hw
      have hw2 := hw2.symm
      subst hw1 hw2
      obtain ⟨hP1, hK1, hD1⟩ := hB
      rw [ht] at hP1
      obtain ⟨hP, hD⟩ := jM_M0 hP hD hk1 hFc hP1 hD1
      clear hPc hDc hKc hFc hz1 hk1 hP1 hK1 hD1 ht hvm
      generalize H1 = H at hP hS ⊢
      refine lv_goto (tgt := 23) hx hb dX7_reg_14 (by decide) ?_
      exact hJ1 (f_X7_get u (f_X7_hl u)) _ _ _ (by simp only [if_pos c2]) hP hS (lv_sub hl [0, 1] rfl)

def f_X7_setReg (u : MW) (a1 : Int32) (a2 : Int32) : MW := 
  if a1 = (6 : Int32) then (f_X7_set u (f_X7_hl u) a2)
  else (sMW_r u (upd (gMW_r u) (a1 : Int32).toNatClampNeg (a2 &&& (255 : Int32))))
theorem qX7_setReg_0 : Cond.fieldLink RX7 16 "DiskMachineModel" "\x72" "[I" ∈ wsX7_setReg := by decide +kernel
theorem iX7_setReg_X7 : ∀ w ∈ wsX70, w ∈ wsX7_setReg := by decide +kernel
set_option maxHeartbeats 4000000 in
set_option maxRecDepth 100000 in
theorem k_X7_setReg (l : Launch) (dC : Nat → ClassId) (dI : Nat → Nat → Nat) (cI : ClassId) (mO memA dskA rgA inA outA : Nat) (sz : Nat) (u : MW) (a1 : Int32) (a2 : Int32) (h1 : vp_in a1 8) : Met l yX7_setReg wsX7_setReg ({ frames := 1, cells := 0, slots := 0, locals := 22 }) (va_Pc [.ref mO, .int a1, .int a2] (wB dC dI [(cI, .int)] sz (wM cI mO memA dskA rgA inA outA u))) (va_Qv (fun u' : MW => u' = (f_X7_setReg u a1 a2)) (fun u' => wE dC dI [(cI, .int)] (va_A (wM cI mO memA dskA rgA inA outA u) sz) (wM cI mO memA dskA rgA inA outA u')) (va_A (wM cI mO memA dskA rgA inA outA u) sz)) 0 0 (va_A (wM cI mO memA dskA rgA inA outA u) sz) := by
  refine Met.ofW (cc := cX7_setReg) (maxL := 3) (ret := none) (by decide) rfl ?_
  intro p e s m args below meth c s₁ B hml hv
  obtain ⟨rfl, hsz, hP, hK, hD0⟩ := hv
  have hx := B.exec
  have hb := B.bytes
  have hr := B.returns
  have hts := atoms_spec (ws := wsX7_setReg) B.pre
  have hown : s.vm.findClass RX7 = some m.cls := findClass_of_methodNamed B.named
  have hlocks := B.notSynchronized
  subst hsz
  have hD := hD0.self (sz := s.heap.size)
  generalize hAe : va_A (wM cI mO memA dskA rgA inA outA u) s.heap.size = A at hD ⊢
  have hA : ∀ q : Nat, s.heap.size ≤ q → A q := fun q h => by rw [← hAe]; exact Or.inr h
  have hS : va_S A s.heap s.heap [] := va_S.rf
  have hP : va_P (dC, dI) vwCl (wM cI mO memA dskA rgA inA outA u) s.heap := hP
  clear hAe hD0
  have hl := lv_entry ([.ref mO, .int a1, .int a2]) (n := 3) (Nat.le_of_ble_eq_true rfl)
  rw [lg_entry_eq]
  generalize (lg_sl ([.ref mO, .int a1, .int a2]) ++ List.replicate (3 - (lg_sl ([.ref mO, .int a1, .int a2])).length) Slot.unset).toArray = ls at hl ⊢
  have hl : lv_has ls 3 [(0, .ref mO), (1, .int a1), (2, .int a2)] := hl
  refine jn_H hP hS (fun H locs hP hS => ?_)
  refine lv_iload_n hx hb dX7_setReg_0 rfl (lv_at hl 1 rfl) ?_
  refine lv_bipush (v := 6) hx hb dX7_setReg_1 (by decide) ?_
  refine lv_icmp_ne (tgt := 18) hx hb dX7_setReg_3 (by decide) (fun c1 => ?_) (fun c1 => ?_)
  · skip
    refine lv_aload_n hx hb dX7_setReg_18 rfl (lv_at hl 0 rfl) ?_
    refine va_get (D := (dC, dI)) (ci := 7) (v := .ref rgA) (C := RX7) (T := TX7) (N := 30) hx hb hts iX7_setReg_X7 hown hK hP 0 rfl rfl 3 (by decide) (hts _ qX7_setReg_0) (fun _ h9 => h9) rfl dX7_setReg_19 ?_
    refine lv_iload_n hx hb dX7_setReg_22 rfl (lv_at hl 1 rfl) ?_
    refine lv_iload_n hx hb dX7_setReg_23 rfl (lv_at hl 2 rfl) ?_
    refine lv_sipush (v := 255) hx hb dX7_setReg_24 (by decide) ?_
    refine lv_iand hx hb dX7_setReg_27 ?_
    refine va_iast (f := (gMW_r u)) hx hb hK hP hD hS 3 0 rfl rfl h1 dX7_setReg_28 (fun H locs hP hD hS => ?_)
    obtain ⟨hP, hD⟩ := aM_rgA hP hD
    exact W.vret hx hb hr (fun t ht hW => ⟨⟨(sMW_r u (upd (gMW_r u) (a1 : Int32).toNatClampNeg (a2 &&& (255 : Int32)))), rfl, (by simp only [f_X7_setReg, if_neg c1]), by rw [ht]; exact hP, va_K.moved hW.alike hK, hD⟩, hS.F ht⟩) hS.2.2 dX7_setReg_29
  · skip
    refine lv_aload_n hx hb dX7_setReg_6 rfl (lv_at hl 0 rfl) ?_
    refine lv_aload_n hx hb dX7_setReg_7 rfl (lv_at hl 0 rfl) ?_
    obtain ⟨hPc, hDc, hFc⟩ := xM_M hP hD hS hA
    have hKc := hK.sub (tys' := [(cI, .int)]) [0] rfl
    refine va_calli (va_runV (As := []) (rest := [.ref mO]) ⟨hx, hb, hml, hown, hts⟩ (k_X7_hl l dC dI cI mO memA dskA rgA inA outA H.size u) (cwV 0 hts gX7_setReg_X7_hl rfl rfl rfl (by decide +kernel) ⟨Nat.le_of_ble_eq_true rfl, Nat.le_of_ble_eq_true rfl⟩) ⟨fun a U g mk q => by obtain ⟨q0, q1, qP, qK, qD⟩ := q; exact ⟨q0, q1, qP, va_K.moved (u := U) (U := U.calling g mk a) (Vm.Alike.refl U.vm) qK, qD⟩, va_recv hKc hPc (ci := 7) (q0 := 0) rfl rfl, fun U hU hW => ⟨rfl, by rw [hU], by rw [hU]; exact hPc, va_K.moved hW.alike hKc, hDc.weaken (fun _ _ _ _ => trivial)⟩⟩ rfl rfl hl.1 rfl (lv_room (Nat.le_of_ble_eq_true rfl)) dX7_setReg_8 ⟨Nat.le_of_ble_eq_true rfl, Nat.le_of_ble_eq_true rfl⟩) hS (fun q _ h => hFc q h) hFc (fun r9 u9 t H1 locs ht hvm hw hB hz1 hk1 hS => ?_)
    obtain ⟨hw1, hw2⟩ := hw
    have hw2 := hw2.symm
    subst hw1 hw2
    obtain ⟨hP1, hK1, hD1⟩ := hB
    rw [ht] at hP1
    obtain ⟨hP, hD⟩ := jM_M0 hP hD hk1 hFc hP1 hD1
    clear hPc hDc hKc hFc hz1 hk1 hP1 hK1 hD1 ht hvm
    generalize H1 = H at hP hS ⊢
    refine lv_iload_n hx hb dX7_setReg_11 rfl (lv_at hl 2 rfl) ?_
    obtain ⟨hPc, hDc, hFc⟩ := xM_M hP hD hS hA
    have hKc := hK.sub (tys' := [(cI, .int)]) [0] rfl
    refine va_callv (va_runV (As := [.int (f_X7_hl u), .int a2]) (rest := []) ⟨hx, hb, hml, hown, hts⟩ (k_X7_set l dC dI cI mO memA dskA rgA inA outA H.size u (f_X7_hl u) a2) (cwV 2 hts gX7_setReg_X7_set rfl rfl rfl (by decide +kernel) ⟨Nat.le_of_ble_eq_true rfl, Nat.le_of_ble_eq_true rfl⟩) ⟨fun a U g mk q => by obtain ⟨q0, q1, qP, qK, qD⟩ := q; exact ⟨q0, q1, qP, va_K.moved (u := U) (U := U.calling g mk a) (Vm.Alike.refl U.vm) qK, qD⟩, va_recv hKc hPc (ci := 7) (q0 := 0) rfl rfl, fun U hU hW => ⟨rfl, by rw [hU], by rw [hU]; exact hPc, va_K.moved hW.alike hKc, hDc.weaken (fun _ _ _ _ => trivial)⟩⟩ rfl rfl hl.1 rfl (lv_room (Nat.le_of_ble_eq_true rfl)) dX7_setReg_12 ⟨Nat.le_of_ble_eq_true rfl, Nat.le_of_ble_eq_true rfl⟩) hS (fun q _ h => hFc q h) hFc (fun u9 t H1 locs ht hvm hw hB hz1 hk1 hS => ?_)
    subst hw
    obtain ⟨hP1, hK1, hD1⟩ := hB
    rw [ht] at hP1
    obtain ⟨hP, hD⟩ := jM_M hP hD hk1 hFc hP1 hD1
    clear hPc hDc hKc hFc hz1 hk1 hP1 hK1 hD1 ht hvm
    generalize H1 = H at hP hS ⊢
    refine lv_goto (tgt := 29) hx hb dX7_setReg_15 (by decide) ?_
    exact W.vret hx hb hr (fun t ht hW => ⟨⟨(f_X7_set u (f_X7_hl u) a2), rfl, (by simp only [f_X7_setReg, if_pos c1]), by rw [ht]; exact hP, va_K.moved hW.alike hK, hD⟩, hS.F ht⟩) hS.2.2 dX7_setReg_29

def f_X7_flags (u : MW) : Int32 := ((((((if (bI (gMW_s u)) = (0 : Int32) then 0 else 128 : Int32) ||| (if (bI (gMW_z u)) = (0 : Int32) then 0 else 64 : Int32)) ||| (if (bI (gMW_h u)) = (0 : Int32) then 0 else 16 : Int32)) ||| (if (bI (gMW_p u)) = (0 : Int32) then 0 else 4 : Int32)) ||| (2 : Int32)) ||| (bI (if (bI (gMW_c u)) = (0 : Int32) then false else true : Bool)))
theorem qX7_flags_0 : Cond.fieldLink RX7 67 "DiskMachineModel" "sign" "Z" ∈ wsX7_flags := by decide +kernel
theorem qX7_flags_1 : Cond.fieldLink RX7 71 "DiskMachineModel" "zero" "Z" ∈ wsX7_flags := by decide +kernel
theorem qX7_flags_2 : Cond.fieldLink RX7 74 "DiskMachineModel" "half" "Z" ∈ wsX7_flags := by decide +kernel
theorem qX7_flags_3 : Cond.fieldLink RX7 77 "DiskMachineModel" "parity" "Z" ∈ wsX7_flags := by decide +kernel
theorem qX7_flags_4 : Cond.fieldLink RX7 80 "DiskMachineModel" "carry" "Z" ∈ wsX7_flags := by decide +kernel
theorem iX7_flags_X7 : ∀ w ∈ wsX70, w ∈ wsX7_flags := by decide +kernel
set_option maxHeartbeats 4000000 in
set_option maxRecDepth 100000 in
theorem k_X7_flags (l : Launch) (dC : Nat → ClassId) (dI : Nat → Nat → Nat) (cI : ClassId) (mO memA dskA rgA inA outA : Nat) (sz : Nat) (u : MW) : Met l yX7_flags wsX7_flags ({ frames := 0, cells := 0, slots := 0, locals := 0 }) (va_Pc [.ref mO] (wB dC dI [(cI, .int)] sz (wM cI mO memA dskA rgA inA outA u))) (va_Qi (fun (r : Int32) (u' : MW) => r = (f_X7_flags u) ∧ u' = u) (fun u' => wE dC dI [(cI, .int)] (va_A (wM cI mO memA dskA rgA inA outA u) sz) (wM cI mO memA dskA rgA inA outA u')) (va_A (wM cI mO memA dskA rgA inA outA u) sz)) 0 0 (va_A (wM cI mO memA dskA rgA inA outA u) sz) := by
  refine Met.ofW (cc := cX7_flags) (maxL := 1) (ret := (some .int)) (by decide) rfl ?_
  intro p e s m args below meth c s₁ B hml hv
  obtain ⟨rfl, hsz, hP, hK, hD0⟩ := hv
  have hx := B.exec
  have hb := B.bytes
  have hr := B.returns
  have hts := atoms_spec (ws := wsX7_flags) B.pre
  have hown : s.vm.findClass RX7 = some m.cls := findClass_of_methodNamed B.named
  have hlocks := B.notSynchronized
  subst hsz
  have hD := hD0.self (sz := s.heap.size)
  generalize hAe : va_A (wM cI mO memA dskA rgA inA outA u) s.heap.size = A at hD ⊢
  have hA : ∀ q : Nat, s.heap.size ≤ q → A q := fun q h => by rw [← hAe]; exact Or.inr h
  have hS : va_S A s.heap s.heap [] := va_S.rf
  have hP : va_P (dC, dI) vwCl (wM cI mO memA dskA rgA inA outA u) s.heap := hP
  clear hAe hD0
  have hl := lv_entry ([.ref mO]) (n := 1) (Nat.le_of_ble_eq_true rfl)
  rw [lg_entry_eq]
  generalize (lg_sl ([.ref mO]) ++ List.replicate (1 - (lg_sl ([.ref mO])).length) Slot.unset).toArray = ls at hl ⊢
  have hl : lv_has ls 1 [(0, .ref mO)] := hl
  refine jn_H hP hS (fun H locs hP hS => ?_)
  refine lv_aload_n hx hb dX7_flags_0 rfl (lv_at hl 0 rfl) ?_
  refine va_get (D := (dC, dI)) (ci := 7) (v := .int (bI (gMW_s u))) (C := RX7) (T := TX7) (N := 30) hx hb hts iX7_flags_X7 hown hK hP 0 rfl rfl 4 (by decide) (hts _ qX7_flags_0) (fun _ h9 => h9) rfl dX7_flags_1 ?_
  refine jn_i (D := (dC, dI)) (cl := vwCl) (ws := (wM cI mO memA dskA rgA inA outA u)) (A := A) (H0 := s.heap) (nL := 1) 14 (if (bI (gMW_s u)) = (0 : Int32) then 0 else 128 : Int32) [(0, .ref mO)] [] (fun H locs ls hP hS hl => ?_) (fun hJ1 => ?_)
  · skip
    refine lv_aload_n hx hb dX7_flags_14 rfl (lv_at hl 0 rfl) ?_
    refine va_get (D := (dC, dI)) (ci := 7) (v := .int (bI (gMW_z u))) (C := RX7) (T := TX7) (N := 30) hx hb hts iX7_flags_X7 hown hK hP 0 rfl rfl 5 (by decide) (hts _ qX7_flags_1) (fun _ h9 => h9) rfl dX7_flags_15 ?_
    refine jn_i (D := (dC, dI)) (cl := vwCl) (ws := (wM cI mO memA dskA rgA inA outA u)) (A := A) (H0 := s.heap) (nL := 1) 27 (if (bI (gMW_z u)) = (0 : Int32) then 0 else 64 : Int32) [(0, .ref mO)] [.int (if (bI (gMW_s u)) = (0 : Int32) then 0 else 128 : Int32)] (fun H locs ls hP hS hl => ?_) (fun hJ2 => ?_)
    · skip
      refine lv_ior hx hb dX7_flags_27 ?_
      refine lv_aload_n hx hb dX7_flags_28 rfl (lv_at hl 0 rfl) ?_
      refine va_get (D := (dC, dI)) (ci := 7) (v := .int (bI (gMW_h u))) (C := RX7) (T := TX7) (N := 30) hx hb hts iX7_flags_X7 hown hK hP 0 rfl rfl 6 (by decide) (hts _ qX7_flags_2) (fun _ h9 => h9) rfl dX7_flags_29 ?_
      refine jn_i (D := (dC, dI)) (cl := vwCl) (ws := (wM cI mO memA dskA rgA inA outA u)) (A := A) (H0 := s.heap) (nL := 1) 41 (if (bI (gMW_h u)) = (0 : Int32) then 0 else 16 : Int32) [(0, .ref mO)] [.int ((if (bI (gMW_s u)) = (0 : Int32) then 0 else 128 : Int32) ||| (if (bI (gMW_z u)) = (0 : Int32) then 0 else 64 : Int32))] (fun H locs ls hP hS hl => ?_) (fun hJ3 => ?_)
      · skip
        refine lv_ior hx hb dX7_flags_41 ?_
        refine lv_aload_n hx hb dX7_flags_42 rfl (lv_at hl 0 rfl) ?_
        refine va_get (D := (dC, dI)) (ci := 7) (v := .int (bI (gMW_p u))) (C := RX7) (T := TX7) (N := 30) hx hb hts iX7_flags_X7 hown hK hP 0 rfl rfl 7 (by decide) (hts _ qX7_flags_3) (fun _ h9 => h9) rfl dX7_flags_43 ?_
        refine jn_i (D := (dC, dI)) (cl := vwCl) (ws := (wM cI mO memA dskA rgA inA outA u)) (A := A) (H0 := s.heap) (nL := 1) 54 (if (bI (gMW_p u)) = (0 : Int32) then 0 else 4 : Int32) [(0, .ref mO)] [.int (((if (bI (gMW_s u)) = (0 : Int32) then 0 else 128 : Int32) ||| (if (bI (gMW_z u)) = (0 : Int32) then 0 else 64 : Int32)) ||| (if (bI (gMW_h u)) = (0 : Int32) then 0 else 16 : Int32))] (fun H locs ls hP hS hl => ?_) (fun hJ4 => ?_)
        · skip
          refine lv_ior hx hb dX7_flags_54 ?_
          refine lv_iconst (v := 2) hx hb dX7_flags_55 (by decide) ?_
          refine lv_ior hx hb dX7_flags_56 ?_
          refine lv_aload_n hx hb dX7_flags_57 rfl (lv_at hl 0 rfl) ?_
          refine va_get (D := (dC, dI)) (ci := 7) (v := .int (bI (gMW_c u))) (C := RX7) (T := TX7) (N := 30) hx hb hts iX7_flags_X7 hown hK hP 0 rfl rfl 8 (by decide) (hts _ qX7_flags_4) (fun _ h9 => h9) rfl dX7_flags_58 ?_
          refine jn_b (D := (dC, dI)) (cl := vwCl) (ws := (wM cI mO memA dskA rgA inA outA u)) (A := A) (H0 := s.heap) (nL := 1) 69 (if (bI (gMW_c u)) = (0 : Int32) then false else true : Bool) [(0, .ref mO)] [.int (((((if (bI (gMW_s u)) = (0 : Int32) then 0 else 128 : Int32) ||| (if (bI (gMW_z u)) = (0 : Int32) then 0 else 64 : Int32)) ||| (if (bI (gMW_h u)) = (0 : Int32) then 0 else 16 : Int32)) ||| (if (bI (gMW_p u)) = (0 : Int32) then 0 else 4 : Int32)) ||| (2 : Int32))] (fun H locs ls hP hS hl => ?_) (fun hJ5 => ?_)
          · skip
            refine lv_ior hx hb dX7_flags_69 ?_
            exact W.iret (v := ((((((if (bI (gMW_s u)) = (0 : Int32) then 0 else 128 : Int32) ||| (if (bI (gMW_z u)) = (0 : Int32) then 0 else 64 : Int32)) ||| (if (bI (gMW_h u)) = (0 : Int32) then 0 else 16 : Int32)) ||| (if (bI (gMW_p u)) = (0 : Int32) then 0 else 4 : Int32)) ||| (2 : Int32)) ||| (bI (if (bI (gMW_c u)) = (0 : Int32) then false else true : Bool)))) hx hb hr (fun t ht hW => ⟨⟨((((((if (bI (gMW_s u)) = (0 : Int32) then 0 else 128 : Int32) ||| (if (bI (gMW_z u)) = (0 : Int32) then 0 else 64 : Int32)) ||| (if (bI (gMW_h u)) = (0 : Int32) then 0 else 16 : Int32)) ||| (if (bI (gMW_p u)) = (0 : Int32) then 0 else 4 : Int32)) ||| (2 : Int32)) ||| (bI (if (bI (gMW_c u)) = (0 : Int32) then false else true : Bool))), u, rfl, ⟨rfl, rfl⟩, by rw [ht]; exact hP, va_K.moved hW.alike hK, hD⟩, hS.F ht⟩) hS.2.2 dX7_flags_70
          · skip
            refine lv_if_eq (tgt := 68) hx hb dX7_flags_61 (by decide) (fun c6 => ?_) (fun c6 => ?_)
            · skip
              refine lv_iconst (v := 0) hx hb dX7_flags_68 (by decide) ?_
              exact hJ5 false _ _ _ (by simp only [if_pos c6]) hP hS (lv_sub hl [0] rfl)
            · skip
              refine lv_iconst (v := 1) hx hb dX7_flags_64 (by decide) ?_
              refine lv_goto (tgt := 69) hx hb dX7_flags_65 (by decide) ?_
              exact hJ5 true _ _ _ (by simp only [if_neg c6]) hP hS (lv_sub hl [0] rfl)
        · skip
          refine lv_if_eq (tgt := 53) hx hb dX7_flags_46 (by decide) (fun c7 => ?_) (fun c7 => ?_)
          · skip
            refine lv_iconst (v := 0) hx hb dX7_flags_53 (by decide) ?_
            exact hJ4 0 _ _ _ (by simp only [if_pos c7]) hP hS (lv_sub hl [0] rfl)
          · skip
            refine lv_iconst (v := 4) hx hb dX7_flags_49 (by decide) ?_
            refine lv_goto (tgt := 54) hx hb dX7_flags_50 (by decide) ?_
            exact hJ4 4 _ _ _ (by simp only [if_neg c7]) hP hS (lv_sub hl [0] rfl)
      · skip
        refine lv_if_eq (tgt := 40) hx hb dX7_flags_32 (by decide) (fun c8 => ?_) (fun c8 => ?_)
        · skip
          refine lv_iconst (v := 0) hx hb dX7_flags_40 (by decide) ?_
          exact hJ3 0 _ _ _ (by simp only [if_pos c8]) hP hS (lv_sub hl [0] rfl)
        · skip
          refine lv_bipush (v := 16) hx hb dX7_flags_35 (by decide) ?_
          refine lv_goto (tgt := 41) hx hb dX7_flags_37 (by decide) ?_
          exact hJ3 16 _ _ _ (by simp only [if_neg c8]) hP hS (lv_sub hl [0] rfl)
    · skip
      refine lv_if_eq (tgt := 26) hx hb dX7_flags_18 (by decide) (fun c9 => ?_) (fun c9 => ?_)
      · skip
        refine lv_iconst (v := 0) hx hb dX7_flags_26 (by decide) ?_
        exact hJ2 0 _ _ _ (by simp only [if_pos c9]) hP hS (lv_sub hl [0] rfl)
      · skip
        refine lv_bipush (v := 64) hx hb dX7_flags_21 (by decide) ?_
        refine lv_goto (tgt := 27) hx hb dX7_flags_23 (by decide) ?_
        exact hJ2 64 _ _ _ (by simp only [if_neg c9]) hP hS (lv_sub hl [0] rfl)
  · skip
    refine lv_if_eq (tgt := 13) hx hb dX7_flags_4 (by decide) (fun c10 => ?_) (fun c10 => ?_)
    · skip
      refine lv_iconst (v := 0) hx hb dX7_flags_13 (by decide) ?_
      exact hJ1 0 _ _ _ (by simp only [if_pos c10]) hP hS (lv_sub hl [0] rfl)
    · skip
      refine lv_sipush (v := 128) hx hb dX7_flags_7 (by decide) ?_
      refine lv_goto (tgt := 14) hx hb dX7_flags_10 (by decide) ?_
      exact hJ1 128 _ _ _ (by simp only [if_neg c10]) hP hS (lv_sub hl [0] rfl)

def f_X7_setFlags (u : MW) (a1 : Int32) : MW := (sMW_c (sMW_p (sMW_h (sMW_z (sMW_s u (if (a1 &&& (128 : Int32)) = (0 : Int32) then false else true : Bool)) (if (a1 &&& (64 : Int32)) = (0 : Int32) then false else true : Bool)) (if (a1 &&& (16 : Int32)) = (0 : Int32) then false else true : Bool)) (if (a1 &&& (4 : Int32)) = (0 : Int32) then false else true : Bool)) (if (a1 &&& (1 : Int32)) = (0 : Int32) then false else true : Bool))
theorem qX7_setFlags_0 : Cond.fieldLink RX7 67 "DiskMachineModel" "sign" "Z" ∈ wsX7_setFlags := by decide +kernel
theorem qX7_setFlags_1 : Cond.fieldLink RX7 71 "DiskMachineModel" "zero" "Z" ∈ wsX7_setFlags := by decide +kernel
theorem qX7_setFlags_2 : Cond.fieldLink RX7 74 "DiskMachineModel" "half" "Z" ∈ wsX7_setFlags := by decide +kernel
theorem qX7_setFlags_3 : Cond.fieldLink RX7 77 "DiskMachineModel" "parity" "Z" ∈ wsX7_setFlags := by decide +kernel
theorem qX7_setFlags_4 : Cond.fieldLink RX7 80 "DiskMachineModel" "carry" "Z" ∈ wsX7_setFlags := by decide +kernel
theorem iX7_setFlags_X7 : ∀ w ∈ wsX70, w ∈ wsX7_setFlags := by decide +kernel
set_option maxHeartbeats 4000000 in
set_option maxRecDepth 100000 in
theorem k_X7_setFlags (l : Launch) (dC : Nat → ClassId) (dI : Nat → Nat → Nat) (cI : ClassId) (mO memA dskA rgA inA outA : Nat) (sz : Nat) (u : MW) (a1 : Int32) : Met l yX7_setFlags wsX7_setFlags ({ frames := 0, cells := 0, slots := 0, locals := 0 }) (va_Pc [.ref mO, .int a1] (wB dC dI [(cI, .int)] sz (wM cI mO memA dskA rgA inA outA u))) (va_Qv (fun u' : MW => u' = (f_X7_setFlags u a1)) (fun u' => wE dC dI [(cI, .int)] (va_A (wM cI mO memA dskA rgA inA outA u) sz) (wM cI mO memA dskA rgA inA outA u')) (va_A (wM cI mO memA dskA rgA inA outA u) sz)) 0 0 (va_A (wM cI mO memA dskA rgA inA outA u) sz) := by
  refine Met.ofW (cc := cX7_setFlags) (maxL := 2) (ret := none) (by decide) rfl ?_
  intro p e s m args below meth c s₁ B hml hv
  obtain ⟨rfl, hsz, hP, hK, hD0⟩ := hv
  have hx := B.exec
  have hb := B.bytes
  have hr := B.returns
  have hts := atoms_spec (ws := wsX7_setFlags) B.pre
  have hown : s.vm.findClass RX7 = some m.cls := findClass_of_methodNamed B.named
  have hlocks := B.notSynchronized
  subst hsz
  have hD := hD0.self (sz := s.heap.size)
  generalize hAe : va_A (wM cI mO memA dskA rgA inA outA u) s.heap.size = A at hD ⊢
  have hA : ∀ q : Nat, s.heap.size ≤ q → A q := fun q h => by rw [← hAe]; exact Or.inr h
  have hS : va_S A s.heap s.heap [] := va_S.rf
  have hP : va_P (dC, dI) vwCl (wM cI mO memA dskA rgA inA outA u) s.heap := hP
  clear hAe hD0
  have hl := lv_entry ([.ref mO, .int a1]) (n := 2) (Nat.le_of_ble_eq_true rfl)
  rw [lg_entry_eq]
  generalize (lg_sl ([.ref mO, .int a1]) ++ List.replicate (2 - (lg_sl ([.ref mO, .int a1])).length) Slot.unset).toArray = ls at hl ⊢
  have hl : lv_has ls 2 [(0, .ref mO), (1, .int a1)] := hl
  refine jn_H hP hS (fun H locs hP hS => ?_)
  refine lv_aload_n hx hb dX7_setFlags_0 rfl (lv_at hl 0 rfl) ?_
  refine lv_iload_n hx hb dX7_setFlags_1 rfl (lv_at hl 1 rfl) ?_
  refine lv_sipush (v := 128) hx hb dX7_setFlags_2 (by decide) ?_
  refine lv_iand hx hb dX7_setFlags_5 ?_
  refine jn_b (D := (dC, dI)) (cl := vwCl) (ws := (wM cI mO memA dskA rgA inA outA u)) (A := A) (H0 := s.heap) (nL := 2) 14 (if (a1 &&& (128 : Int32)) = (0 : Int32) then false else true : Bool) [(0, .ref mO), (1, .int a1)] [.ref mO] (fun H locs ls hP hS hl => ?_) (fun hJ1 => ?_)
  · skip
    refine va_put (D := (dC, dI)) (ci := 7) (v := .int (bI (if (a1 &&& (128 : Int32)) = (0 : Int32) then false else true : Bool))) (ty := .boolean) (C := RX7) (T := TX7) (N := 30) hx hb hts iX7_setFlags_X7 tyX7 tyX7_ok nmX7 hown hK hP hD hS 0 rfl rfl 4 (by decide) (hts _ qX7_setFlags_0) (fun _ h9 => h9) rfl (by decide +kernel) (bI_nar (if (a1 &&& (128 : Int32)) = (0 : Int32) then false else true : Bool)) (bI_fit (if (a1 &&& (128 : Int32)) = (0 : Int32) then false else true : Bool)) (Nat.le_of_ble_eq_true rfl) dX7_setFlags_14 (fun H locs hP hD hS => ?_)
    obtain ⟨hP, hD⟩ := pM_s hP hD
    refine lv_aload_n hx hb dX7_setFlags_17 rfl (lv_at hl 0 rfl) ?_
    refine lv_iload_n hx hb dX7_setFlags_18 rfl (lv_at hl 1 rfl) ?_
    refine lv_bipush (v := 64) hx hb dX7_setFlags_19 (by decide) ?_
    refine lv_iand hx hb dX7_setFlags_21 ?_
    refine jn_b (D := (dC, dI)) (cl := vwCl) (ws := (wM cI mO memA dskA rgA inA outA (sMW_s u (if (a1 &&& (128 : Int32)) = (0 : Int32) then false else true : Bool)))) (A := A) (H0 := s.heap) (nL := 2) 30 (if (a1 &&& (64 : Int32)) = (0 : Int32) then false else true : Bool) [(0, .ref mO), (1, .int a1)] [.ref mO] (fun H locs ls hP hS hl => ?_) (fun hJ2 => ?_)
    · skip
      refine va_put (D := (dC, dI)) (ci := 7) (v := .int (bI (if (a1 &&& (64 : Int32)) = (0 : Int32) then false else true : Bool))) (ty := .boolean) (C := RX7) (T := TX7) (N := 30) hx hb hts iX7_setFlags_X7 tyX7 tyX7_ok nmX7 hown hK hP hD hS 0 rfl rfl 5 (by decide) (hts _ qX7_setFlags_1) (fun _ h9 => h9) rfl (by decide +kernel) (bI_nar (if (a1 &&& (64 : Int32)) = (0 : Int32) then false else true : Bool)) (bI_fit (if (a1 &&& (64 : Int32)) = (0 : Int32) then false else true : Bool)) (Nat.le_of_ble_eq_true rfl) dX7_setFlags_30 (fun H locs hP hD hS => ?_)
      obtain ⟨hP, hD⟩ := pM_z hP hD
      refine lv_aload_n hx hb dX7_setFlags_33 rfl (lv_at hl 0 rfl) ?_
      refine lv_iload_n hx hb dX7_setFlags_34 rfl (lv_at hl 1 rfl) ?_
      refine lv_bipush (v := 16) hx hb dX7_setFlags_35 (by decide) ?_
      refine lv_iand hx hb dX7_setFlags_37 ?_
      refine jn_b (D := (dC, dI)) (cl := vwCl) (ws := (wM cI mO memA dskA rgA inA outA (sMW_z (sMW_s u (if (a1 &&& (128 : Int32)) = (0 : Int32) then false else true : Bool)) (if (a1 &&& (64 : Int32)) = (0 : Int32) then false else true : Bool)))) (A := A) (H0 := s.heap) (nL := 2) 46 (if (a1 &&& (16 : Int32)) = (0 : Int32) then false else true : Bool) [(0, .ref mO), (1, .int a1)] [.ref mO] (fun H locs ls hP hS hl => ?_) (fun hJ3 => ?_)
      · skip
        refine va_put (D := (dC, dI)) (ci := 7) (v := .int (bI (if (a1 &&& (16 : Int32)) = (0 : Int32) then false else true : Bool))) (ty := .boolean) (C := RX7) (T := TX7) (N := 30) hx hb hts iX7_setFlags_X7 tyX7 tyX7_ok nmX7 hown hK hP hD hS 0 rfl rfl 6 (by decide) (hts _ qX7_setFlags_2) (fun _ h9 => h9) rfl (by decide +kernel) (bI_nar (if (a1 &&& (16 : Int32)) = (0 : Int32) then false else true : Bool)) (bI_fit (if (a1 &&& (16 : Int32)) = (0 : Int32) then false else true : Bool)) (Nat.le_of_ble_eq_true rfl) dX7_setFlags_46 (fun H locs hP hD hS => ?_)
        obtain ⟨hP, hD⟩ := pM_h hP hD
        refine lv_aload_n hx hb dX7_setFlags_49 rfl (lv_at hl 0 rfl) ?_
        refine lv_iload_n hx hb dX7_setFlags_50 rfl (lv_at hl 1 rfl) ?_
        refine lv_iconst (v := 4) hx hb dX7_setFlags_51 (by decide) ?_
        refine lv_iand hx hb dX7_setFlags_52 ?_
        refine jn_b (D := (dC, dI)) (cl := vwCl) (ws := (wM cI mO memA dskA rgA inA outA (sMW_h (sMW_z (sMW_s u (if (a1 &&& (128 : Int32)) = (0 : Int32) then false else true : Bool)) (if (a1 &&& (64 : Int32)) = (0 : Int32) then false else true : Bool)) (if (a1 &&& (16 : Int32)) = (0 : Int32) then false else true : Bool)))) (A := A) (H0 := s.heap) (nL := 2) 61 (if (a1 &&& (4 : Int32)) = (0 : Int32) then false else true : Bool) [(0, .ref mO), (1, .int a1)] [.ref mO] (fun H locs ls hP hS hl => ?_) (fun hJ4 => ?_)
        · skip
          refine va_put (D := (dC, dI)) (ci := 7) (v := .int (bI (if (a1 &&& (4 : Int32)) = (0 : Int32) then false else true : Bool))) (ty := .boolean) (C := RX7) (T := TX7) (N := 30) hx hb hts iX7_setFlags_X7 tyX7 tyX7_ok nmX7 hown hK hP hD hS 0 rfl rfl 7 (by decide) (hts _ qX7_setFlags_3) (fun _ h9 => h9) rfl (by decide +kernel) (bI_nar (if (a1 &&& (4 : Int32)) = (0 : Int32) then false else true : Bool)) (bI_fit (if (a1 &&& (4 : Int32)) = (0 : Int32) then false else true : Bool)) (Nat.le_of_ble_eq_true rfl) dX7_setFlags_61 (fun H locs hP hD hS => ?_)
          obtain ⟨hP, hD⟩ := pM_p hP hD
          refine lv_aload_n hx hb dX7_setFlags_64 rfl (lv_at hl 0 rfl) ?_
          refine lv_iload_n hx hb dX7_setFlags_65 rfl (lv_at hl 1 rfl) ?_
          refine lv_iconst (v := 1) hx hb dX7_setFlags_66 (by decide) ?_
          refine lv_iand hx hb dX7_setFlags_67 ?_
          refine jn_b (D := (dC, dI)) (cl := vwCl) (ws := (wM cI mO memA dskA rgA inA outA (sMW_p (sMW_h (sMW_z (sMW_s u (if (a1 &&& (128 : Int32)) = (0 : Int32) then false else true : Bool)) (if (a1 &&& (64 : Int32)) = (0 : Int32) then false else true : Bool)) (if (a1 &&& (16 : Int32)) = (0 : Int32) then false else true : Bool)) (if (a1 &&& (4 : Int32)) = (0 : Int32) then false else true : Bool)))) (A := A) (H0 := s.heap) (nL := 2) 76 (if (a1 &&& (1 : Int32)) = (0 : Int32) then false else true : Bool) [(0, .ref mO), (1, .int a1)] [.ref mO] (fun H locs ls hP hS hl => ?_) (fun hJ5 => ?_)
          · skip
            refine va_put (D := (dC, dI)) (ci := 7) (v := .int (bI (if (a1 &&& (1 : Int32)) = (0 : Int32) then false else true : Bool))) (ty := .boolean) (C := RX7) (T := TX7) (N := 30) hx hb hts iX7_setFlags_X7 tyX7 tyX7_ok nmX7 hown hK hP hD hS 0 rfl rfl 8 (by decide) (hts _ qX7_setFlags_4) (fun _ h9 => h9) rfl (by decide +kernel) (bI_nar (if (a1 &&& (1 : Int32)) = (0 : Int32) then false else true : Bool)) (bI_fit (if (a1 &&& (1 : Int32)) = (0 : Int32) then false else true : Bool)) (Nat.le_of_ble_eq_true rfl) dX7_setFlags_76 (fun H locs hP hD hS => ?_)
            obtain ⟨hP, hD⟩ := pM_c hP hD
            exact W.vret hx hb hr (fun t ht hW => ⟨⟨(sMW_c (sMW_p (sMW_h (sMW_z (sMW_s u (if (a1 &&& (128 : Int32)) = (0 : Int32) then false else true : Bool)) (if (a1 &&& (64 : Int32)) = (0 : Int32) then false else true : Bool)) (if (a1 &&& (16 : Int32)) = (0 : Int32) then false else true : Bool)) (if (a1 &&& (4 : Int32)) = (0 : Int32) then false else true : Bool)) (if (a1 &&& (1 : Int32)) = (0 : Int32) then false else true : Bool)), rfl, rfl, by rw [ht]; exact hP, va_K.moved hW.alike hK, hD⟩, hS.F ht⟩) hS.2.2 dX7_setFlags_79
          · skip
            refine lv_if_eq (tgt := 75) hx hb dX7_setFlags_68 (by decide) (fun c6 => ?_) (fun c6 => ?_)
            · skip
              refine lv_iconst (v := 0) hx hb dX7_setFlags_75 (by decide) ?_
              exact hJ5 false _ _ _ (by simp only [if_pos c6]) hP hS (lv_sub hl [0, 1] rfl)
            · skip
              refine lv_iconst (v := 1) hx hb dX7_setFlags_71 (by decide) ?_
              refine lv_goto (tgt := 76) hx hb dX7_setFlags_72 (by decide) ?_
              exact hJ5 true _ _ _ (by simp only [if_neg c6]) hP hS (lv_sub hl [0, 1] rfl)
        · skip
          refine lv_if_eq (tgt := 60) hx hb dX7_setFlags_53 (by decide) (fun c7 => ?_) (fun c7 => ?_)
          · skip
            refine lv_iconst (v := 0) hx hb dX7_setFlags_60 (by decide) ?_
            exact hJ4 false _ _ _ (by simp only [if_pos c7]) hP hS (lv_sub hl [0, 1] rfl)
          · skip
            refine lv_iconst (v := 1) hx hb dX7_setFlags_56 (by decide) ?_
            refine lv_goto (tgt := 61) hx hb dX7_setFlags_57 (by decide) ?_
            exact hJ4 true _ _ _ (by simp only [if_neg c7]) hP hS (lv_sub hl [0, 1] rfl)
      · skip
        refine lv_if_eq (tgt := 45) hx hb dX7_setFlags_38 (by decide) (fun c8 => ?_) (fun c8 => ?_)
        · skip
          refine lv_iconst (v := 0) hx hb dX7_setFlags_45 (by decide) ?_
          exact hJ3 false _ _ _ (by simp only [if_pos c8]) hP hS (lv_sub hl [0, 1] rfl)
        · skip
          refine lv_iconst (v := 1) hx hb dX7_setFlags_41 (by decide) ?_
          refine lv_goto (tgt := 46) hx hb dX7_setFlags_42 (by decide) ?_
          exact hJ3 true _ _ _ (by simp only [if_neg c8]) hP hS (lv_sub hl [0, 1] rfl)
    · skip
      refine lv_if_eq (tgt := 29) hx hb dX7_setFlags_22 (by decide) (fun c9 => ?_) (fun c9 => ?_)
      · skip
        refine lv_iconst (v := 0) hx hb dX7_setFlags_29 (by decide) ?_
        exact hJ2 false _ _ _ (by simp only [if_pos c9]) hP hS (lv_sub hl [0, 1] rfl)
      · skip
        refine lv_iconst (v := 1) hx hb dX7_setFlags_25 (by decide) ?_
        refine lv_goto (tgt := 30) hx hb dX7_setFlags_26 (by decide) ?_
        exact hJ2 true _ _ _ (by simp only [if_neg c9]) hP hS (lv_sub hl [0, 1] rfl)
  · skip
    refine lv_if_eq (tgt := 13) hx hb dX7_setFlags_6 (by decide) (fun c10 => ?_) (fun c10 => ?_)
    · skip
      refine lv_iconst (v := 0) hx hb dX7_setFlags_13 (by decide) ?_
      exact hJ1 false _ _ _ (by simp only [if_pos c10]) hP hS (lv_sub hl [0, 1] rfl)
    · skip
      refine lv_iconst (v := 1) hx hb dX7_setFlags_9 (by decide) ?_
      refine lv_goto (tgt := 14) hx hb dX7_setFlags_10 (by decide) ?_
      exact hJ1 true _ _ _ (by simp only [if_neg c10]) hP hS (lv_sub hl [0, 1] rfl)

def f_X7_holds (u : MW) (a1 : Int32) : Bool := (if (bI (if (2 : Int32) ≤ a1 then (if (4 : Int32) ≤ a1 then (if (6 : Int32) ≤ a1 then (gMW_s u) else (gMW_p u) : Bool) else (gMW_c u) : Bool) else (gMW_z u) : Bool)) = (bI (if (a1 - a1 / (2 : Int32) * (2 : Int32)) = (1 : Int32) then true else false : Bool)) then true else false : Bool)
theorem qX7_holds_0 : Cond.fieldLink RX7 67 "DiskMachineModel" "sign" "Z" ∈ wsX7_holds := by decide +kernel
theorem qX7_holds_1 : Cond.fieldLink RX7 77 "DiskMachineModel" "parity" "Z" ∈ wsX7_holds := by decide +kernel
theorem qX7_holds_2 : Cond.fieldLink RX7 80 "DiskMachineModel" "carry" "Z" ∈ wsX7_holds := by decide +kernel
theorem qX7_holds_3 : Cond.fieldLink RX7 71 "DiskMachineModel" "zero" "Z" ∈ wsX7_holds := by decide +kernel
theorem iX7_holds_X7 : ∀ w ∈ wsX70, w ∈ wsX7_holds := by decide +kernel
set_option maxHeartbeats 4000000 in
set_option maxRecDepth 100000 in
theorem k_X7_holds (l : Launch) (dC : Nat → ClassId) (dI : Nat → Nat → Nat) (cI : ClassId) (mO memA dskA rgA inA outA : Nat) (sz : Nat) (u : MW) (a1 : Int32) : Met l yX7_holds wsX7_holds ({ frames := 0, cells := 0, slots := 0, locals := 0 }) (va_Pc [.ref mO, .int a1] (wB dC dI [(cI, .int)] sz (wM cI mO memA dskA rgA inA outA u))) (va_Qi (fun (r : Int32) (u' : MW) => r = (bI (f_X7_holds u a1)) ∧ u' = u) (fun u' => wE dC dI [(cI, .int)] (va_A (wM cI mO memA dskA rgA inA outA u) sz) (wM cI mO memA dskA rgA inA outA u')) (va_A (wM cI mO memA dskA rgA inA outA u) sz)) 0 0 (va_A (wM cI mO memA dskA rgA inA outA u) sz) := by
  refine Met.ofW (cc := cX7_holds) (maxL := 3) (ret := (some .boolean)) (by decide) rfl ?_
  intro p e s m args below meth c s₁ B hml hv
  obtain ⟨rfl, hsz, hP, hK, hD0⟩ := hv
  have hx := B.exec
  have hb := B.bytes
  have hr := B.returns
  have hts := atoms_spec (ws := wsX7_holds) B.pre
  have hown : s.vm.findClass RX7 = some m.cls := findClass_of_methodNamed B.named
  have hlocks := B.notSynchronized
  subst hsz
  have hD := hD0.self (sz := s.heap.size)
  generalize hAe : va_A (wM cI mO memA dskA rgA inA outA u) s.heap.size = A at hD ⊢
  have hA : ∀ q : Nat, s.heap.size ≤ q → A q := fun q h => by rw [← hAe]; exact Or.inr h
  have hS : va_S A s.heap s.heap [] := va_S.rf
  have hP : va_P (dC, dI) vwCl (wM cI mO memA dskA rgA inA outA u) s.heap := hP
  clear hAe hD0
  have hl := lv_entry ([.ref mO, .int a1]) (n := 3) (Nat.le_of_ble_eq_true rfl)
  rw [lg_entry_eq]
  generalize (lg_sl ([.ref mO, .int a1]) ++ List.replicate (3 - (lg_sl ([.ref mO, .int a1])).length) Slot.unset).toArray = ls at hl ⊢
  have hl : lv_has ls 3 [(0, .ref mO), (1, .int a1)] := hl
  refine jn_H hP hS (fun H locs hP hS => ?_)
  refine lv_iload_n hx hb dX7_holds_0 rfl (lv_at hl 1 rfl) ?_
  refine lv_iconst (v := 2) hx hb dX7_holds_1 (by decide) ?_
  refine jn_b (D := (dC, dI)) (cl := vwCl) (ws := (wM cI mO memA dskA rgA inA outA u)) (A := A) (H0 := s.heap) (nL := 3) 41 (if (2 : Int32) ≤ a1 then (if (4 : Int32) ≤ a1 then (if (6 : Int32) ≤ a1 then (gMW_s u) else (gMW_p u) : Bool) else (gMW_c u) : Bool) else (gMW_z u) : Bool) [(0, .ref mO), (1, .int a1)] [] (fun H locs ls hP hS hl => ?_) (fun hJ1 => ?_)
  · skip
    refine lv_istore_n (lv' := [(2, .int (bI (if (2 : Int32) ≤ a1 then (if (4 : Int32) ≤ a1 then (if (6 : Int32) ≤ a1 then (gMW_s u) else (gMW_p u) : Bool) else (gMW_c u) : Bool) else (gMW_z u) : Bool))), (0, .ref mO), (1, .int a1)]) hx hb dX7_holds_41 rfl hl (by decide) rfl (fun ls hl => ?_)
    refine lv_iload_n hx hb dX7_holds_42 rfl (lv_at hl 0 rfl) ?_
    refine lv_iload_n hx hb dX7_holds_43 rfl (lv_at hl 2 rfl) ?_
    refine lv_iconst (v := 2) hx hb dX7_holds_44 (by decide) ?_
    refine lv_irem hx hb dX7_holds_45 (by decide) ?_
    refine lv_iconst (v := 1) hx hb dX7_holds_46 (by decide) ?_
    refine jn_b (D := (dC, dI)) (cl := vwCl) (ws := (wM cI mO memA dskA rgA inA outA u)) (A := A) (H0 := s.heap) (nL := 3) 55 (if (a1 - a1 / (2 : Int32) * (2 : Int32)) = (1 : Int32) then true else false : Bool) [(0, .ref mO), (1, .int a1), (2, .int (bI (if (2 : Int32) ≤ a1 then (if (4 : Int32) ≤ a1 then (if (6 : Int32) ≤ a1 then (gMW_s u) else (gMW_p u) : Bool) else (gMW_c u) : Bool) else (gMW_z u) : Bool)))] [.int (bI (if (2 : Int32) ≤ a1 then (if (4 : Int32) ≤ a1 then (if (6 : Int32) ≤ a1 then (gMW_s u) else (gMW_p u) : Bool) else (gMW_c u) : Bool) else (gMW_z u) : Bool))] (fun H locs ls hP hS hl => ?_) (fun hJ2 => ?_)
    · skip
      refine jn_b (D := (dC, dI)) (cl := vwCl) (ws := (wM cI mO memA dskA rgA inA outA u)) (A := A) (H0 := s.heap) (nL := 3) 63 (if (bI (if (2 : Int32) ≤ a1 then (if (4 : Int32) ≤ a1 then (if (6 : Int32) ≤ a1 then (gMW_s u) else (gMW_p u) : Bool) else (gMW_c u) : Bool) else (gMW_z u) : Bool)) = (bI (if (a1 - a1 / (2 : Int32) * (2 : Int32)) = (1 : Int32) then true else false : Bool)) then true else false : Bool) [(0, .ref mO), (1, .int a1), (2, .int (bI (if (2 : Int32) ≤ a1 then (if (4 : Int32) ≤ a1 then (if (6 : Int32) ≤ a1 then (gMW_s u) else (gMW_p u) : Bool) else (gMW_c u) : Bool) else (gMW_z u) : Bool)))] [] (fun H locs ls hP hS hl => ?_) (fun hJ3 => ?_)
      · skip
        exact W.zret (v := (bI (if (bI (if (2 : Int32) ≤ a1 then (if (4 : Int32) ≤ a1 then (if (6 : Int32) ≤ a1 then (gMW_s u) else (gMW_p u) : Bool) else (gMW_c u) : Bool) else (gMW_z u) : Bool)) = (bI (if (a1 - a1 / (2 : Int32) * (2 : Int32)) = (1 : Int32) then true else false : Bool)) then true else false : Bool))) hx hb hr (bI_nar (if (bI (if (2 : Int32) ≤ a1 then (if (4 : Int32) ≤ a1 then (if (6 : Int32) ≤ a1 then (gMW_s u) else (gMW_p u) : Bool) else (gMW_c u) : Bool) else (gMW_z u) : Bool)) = (bI (if (a1 - a1 / (2 : Int32) * (2 : Int32)) = (1 : Int32) then true else false : Bool)) then true else false : Bool)) (fun t ht hW => ⟨⟨(bI (if (bI (if (2 : Int32) ≤ a1 then (if (4 : Int32) ≤ a1 then (if (6 : Int32) ≤ a1 then (gMW_s u) else (gMW_p u) : Bool) else (gMW_c u) : Bool) else (gMW_z u) : Bool)) = (bI (if (a1 - a1 / (2 : Int32) * (2 : Int32)) = (1 : Int32) then true else false : Bool)) then true else false : Bool)), u, rfl, ⟨rfl, rfl⟩, by rw [ht]; exact hP, va_K.moved hW.alike hK, hD⟩, hS.F ht⟩) hS.2.2 dX7_holds_63
      · skip
        refine lv_icmp_ne (tgt := 62) hx hb dX7_holds_55 (by decide) (fun c4 => ?_) (fun c4 => ?_)
        · skip
          refine lv_iconst (v := 0) hx hb dX7_holds_62 (by decide) ?_
          exact hJ3 false _ _ _ (by simp only [if_neg c4]) hP hS (lv_sub hl [0, 1, 2] rfl)
        · skip
          refine lv_iconst (v := 1) hx hb dX7_holds_58 (by decide) ?_
          refine lv_goto (tgt := 63) hx hb dX7_holds_59 (by decide) ?_
          exact hJ3 true _ _ _ (by simp only [if_pos c4]) hP hS (lv_sub hl [0, 1, 2] rfl)
    · skip
      refine lv_icmp_ne (tgt := 54) hx hb dX7_holds_47 (by decide) (fun c5 => ?_) (fun c5 => ?_)
      · skip
        refine lv_iconst (v := 0) hx hb dX7_holds_54 (by decide) ?_
        exact hJ2 false _ _ _ (by simp only [if_neg c5]) hP hS (lv_sub hl [1, 2, 0] rfl)
      · skip
        refine lv_iconst (v := 1) hx hb dX7_holds_50 (by decide) ?_
        refine lv_goto (tgt := 55) hx hb dX7_holds_51 (by decide) ?_
        exact hJ2 true _ _ _ (by simp only [if_pos c5]) hP hS (lv_sub hl [1, 2, 0] rfl)
  · skip
    refine lv_icmp_ge (tgt := 12) hx hb dX7_holds_2 (by decide) (fun c6 => ?_) (fun c6 => ?_)
    · skip
      refine lv_iload_n hx hb dX7_holds_12 rfl (lv_at hl 1 rfl) ?_
      refine lv_iconst (v := 4) hx hb dX7_holds_13 (by decide) ?_
      refine jn_b (D := (dC, dI)) (cl := vwCl) (ws := (wM cI mO memA dskA rgA inA outA u)) (A := A) (H0 := s.heap) (nL := 3) 41 (if (4 : Int32) ≤ a1 then (if (6 : Int32) ≤ a1 then (gMW_s u) else (gMW_p u) : Bool) else (gMW_c u) : Bool) [(0, .ref mO), (1, .int a1)] [] (fun H locs ls hP hS hl => ?_) (fun hJ7 => ?_)
      · skip
        exact hJ1 (if (4 : Int32) ≤ a1 then (if (6 : Int32) ≤ a1 then (gMW_s u) else (gMW_p u) : Bool) else (gMW_c u) : Bool) _ _ _ (by simp only [if_pos c6]) hP hS (lv_sub hl [0, 1] rfl)
      · skip
        refine lv_icmp_ge (tgt := 24) hx hb dX7_holds_14 (by decide) (fun c8 => ?_) (fun c8 => ?_)
        · skip
          refine lv_iload_n hx hb dX7_holds_24 rfl (lv_at hl 1 rfl) ?_
          refine lv_bipush (v := 6) hx hb dX7_holds_25 (by decide) ?_
          refine jn_b (D := (dC, dI)) (cl := vwCl) (ws := (wM cI mO memA dskA rgA inA outA u)) (A := A) (H0 := s.heap) (nL := 3) 41 (if (6 : Int32) ≤ a1 then (gMW_s u) else (gMW_p u) : Bool) [(0, .ref mO), (1, .int a1)] [] (fun H locs ls hP hS hl => ?_) (fun hJ9 => ?_)
          · skip
            exact hJ7 (if (6 : Int32) ≤ a1 then (gMW_s u) else (gMW_p u) : Bool) _ _ _ (by simp only [if_pos c8]) hP hS (lv_sub hl [0, 1] rfl)
          · skip
            refine lv_icmp_ge (tgt := 37) hx hb dX7_holds_27 (by decide) (fun c10 => ?_) (fun c10 => ?_)
            · skip
              refine lv_aload_n hx hb dX7_holds_37 rfl (lv_at hl 0 rfl) ?_
              refine va_get (D := (dC, dI)) (ci := 7) (v := .int (bI (gMW_s u))) (C := RX7) (T := TX7) (N := 30) hx hb hts iX7_holds_X7 hown hK hP 0 rfl rfl 4 (by decide) (hts _ qX7_holds_0) (fun _ h9 => h9) rfl dX7_holds_38 ?_
              exact hJ9 (gMW_s u) _ _ _ (by simp only [if_pos c10]) hP hS (lv_sub hl [0, 1] rfl)
            · skip
              refine lv_aload_n hx hb dX7_holds_30 rfl (lv_at hl 0 rfl) ?_
              refine va_get (D := (dC, dI)) (ci := 7) (v := .int (bI (gMW_p u))) (C := RX7) (T := TX7) (N := 30) hx hb hts iX7_holds_X7 hown hK hP 0 rfl rfl 7 (by decide) (hts _ qX7_holds_1) (fun _ h9 => h9) rfl dX7_holds_31 ?_
              refine lv_goto (tgt := 41) hx hb dX7_holds_34 (by decide) ?_
              exact hJ9 (gMW_p u) _ _ _ (by simp only [if_neg c10]) hP hS (lv_sub hl [0, 1] rfl)
        · skip
          refine lv_aload_n hx hb dX7_holds_17 rfl (lv_at hl 0 rfl) ?_
          refine va_get (D := (dC, dI)) (ci := 7) (v := .int (bI (gMW_c u))) (C := RX7) (T := TX7) (N := 30) hx hb hts iX7_holds_X7 hown hK hP 0 rfl rfl 8 (by decide) (hts _ qX7_holds_2) (fun _ h9 => h9) rfl dX7_holds_18 ?_
          refine lv_goto (tgt := 41) hx hb dX7_holds_21 (by decide) ?_
          exact hJ7 (gMW_c u) _ _ _ (by simp only [if_neg c8]) hP hS (lv_sub hl [0, 1] rfl)
    · skip
      refine lv_aload_n hx hb dX7_holds_5 rfl (lv_at hl 0 rfl) ?_
      refine va_get (D := (dC, dI)) (ci := 7) (v := .int (bI (gMW_z u))) (C := RX7) (T := TX7) (N := 30) hx hb hts iX7_holds_X7 hown hK hP 0 rfl rfl 5 (by decide) (hts _ qX7_holds_3) (fun _ h9 => h9) rfl dX7_holds_6 ?_
      refine lv_goto (tgt := 41) hx hb dX7_holds_9 (by decide) ?_
      exact hJ1 (gMW_z u) _ _ _ (by simp only [if_neg c6]) hP hS (lv_sub hl [0, 1] rfl)

def f_X7_written (u : MW) : Int32 × MW := ((gMW_outs (sMW_thr u 0)), (sMW_thr u 0))
theorem qX7_written_0 : Cond.fieldLink RX7 29 "DiskMachineModel" "thrown" "I" ∈ wsX7_written := by decide +kernel
theorem qX7_written_1 : Cond.fieldLink RX7 109 "DiskMachineModel" "outputs" "I" ∈ wsX7_written := by decide +kernel
theorem iX7_written_X7 : ∀ w ∈ wsX70, w ∈ wsX7_written := by decide +kernel
set_option maxHeartbeats 4000000 in
set_option maxRecDepth 100000 in
theorem k_X7_written (l : Launch) (dC : Nat → ClassId) (dI : Nat → Nat → Nat) (cI : ClassId) (mO memA dskA rgA inA outA : Nat) (sz : Nat) (u : MW) : Met l yX7_written wsX7_written ({ frames := 0, cells := 0, slots := 0, locals := 0 }) (va_Pc [.ref mO] (wB dC dI [(cI, .int)] sz (wM cI mO memA dskA rgA inA outA u))) (va_Qi (fun (r : Int32) (u' : MW) => r = (f_X7_written u).1 ∧ u' = (f_X7_written u).2) (fun u' => wE dC dI [(cI, .int)] (va_A (wM cI mO memA dskA rgA inA outA u) sz) (wM cI mO memA dskA rgA inA outA u')) (va_A (wM cI mO memA dskA rgA inA outA u) sz)) 0 0 (va_A (wM cI mO memA dskA rgA inA outA u) sz) := by
  refine Met.ofW (cc := cX7_written) (maxL := 1) (ret := (some .int)) (by decide) rfl ?_
  intro p e s m args below meth c s₁ B hml hv
  obtain ⟨rfl, hsz, hP, hK, hD0⟩ := hv
  have hx := B.exec
  have hb := B.bytes
  have hr := B.returns
  have hts := atoms_spec (ws := wsX7_written) B.pre
  have hown : s.vm.findClass RX7 = some m.cls := findClass_of_methodNamed B.named
  have hlocks := B.notSynchronized
  subst hsz
  have hD := hD0.self (sz := s.heap.size)
  generalize hAe : va_A (wM cI mO memA dskA rgA inA outA u) s.heap.size = A at hD ⊢
  have hA : ∀ q : Nat, s.heap.size ≤ q → A q := fun q h => by rw [← hAe]; exact Or.inr h
  have hS : va_S A s.heap s.heap [] := va_S.rf
  have hP : va_P (dC, dI) vwCl (wM cI mO memA dskA rgA inA outA u) s.heap := hP
  clear hAe hD0
  have hl := lv_entry ([.ref mO]) (n := 1) (Nat.le_of_ble_eq_true rfl)
  rw [lg_entry_eq]
  generalize (lg_sl ([.ref mO]) ++ List.replicate (1 - (lg_sl ([.ref mO])).length) Slot.unset).toArray = ls at hl ⊢
  have hl : lv_has ls 1 [(0, .ref mO)] := hl
  refine jn_H hP hS (fun H locs hP hS => ?_)
  refine lv_aload_n hx hb dX7_written_0 rfl (lv_at hl 0 rfl) ?_
  refine lv_iconst (v := 0) hx hb dX7_written_1 (by decide) ?_
  refine va_put (D := (dC, dI)) (ci := 7) (v := .int 0) (ty := .int) (C := RX7) (T := TX7) (N := 30) hx hb hts iX7_written_X7 tyX7 tyX7_ok nmX7 hown hK hP hD hS 0 rfl rfl 0 (by decide) (hts _ qX7_written_0) (fun _ h9 => h9) rfl (by decide +kernel) rfl rfl (Nat.le_of_ble_eq_true rfl) dX7_written_2 (fun H locs hP hD hS => ?_)
  obtain ⟨hP, hD⟩ := pM_thr hP hD
  refine lv_aload_n hx hb dX7_written_5 rfl (lv_at hl 0 rfl) ?_
  refine va_get (D := (dC, dI)) (ci := 7) (v := .int (gMW_outs (sMW_thr u 0))) (C := RX7) (T := TX7) (N := 30) hx hb hts iX7_written_X7 hown hK hP 0 rfl rfl 20 (by decide) (hts _ qX7_written_1) (fun _ h9 => h9) rfl dX7_written_6 ?_
  exact W.iret (v := (gMW_outs (sMW_thr u 0))) hx hb hr (fun t ht hW => ⟨⟨(gMW_outs (sMW_thr u 0)), (sMW_thr u 0), rfl, ⟨rfl, rfl⟩, by rw [ht]; exact hP, va_K.moved hW.alike hK, hD⟩, hS.F ht⟩) hS.2.2 dX7_written_9

def f_X7_want (u : MW) (a1 : Int32) : MW := 
  if (gMW_thr (sMW_thr u (bI (if a1 < (0 : Int32) then true else (if a1 ≤ (7 : Int32) then false else true : Bool) : Bool)))) = (0 : Int32) then (sMW_want (sMW_thr u (bI (if a1 < (0 : Int32) then true else (if a1 ≤ (7 : Int32) then false else true : Bool) : Bool))) a1)
  else (sMW_thr u (bI (if a1 < (0 : Int32) then true else (if a1 ≤ (7 : Int32) then false else true : Bool) : Bool)))
theorem qX7_want_0 : Cond.fieldLink RX7 29 "DiskMachineModel" "thrown" "I" ∈ wsX7_want := by decide +kernel
theorem qX7_want_1 : Cond.fieldLink RX7 19 "DiskMachineModel" "wanted" "I" ∈ wsX7_want := by decide +kernel
theorem iX7_want_X7 : ∀ w ∈ wsX70, w ∈ wsX7_want := by decide +kernel
set_option maxHeartbeats 4000000 in
set_option maxRecDepth 100000 in
theorem k_X7_want (l : Launch) (dC : Nat → ClassId) (dI : Nat → Nat → Nat) (cI : ClassId) (mO memA dskA rgA inA outA : Nat) (sz : Nat) (u : MW) (a1 : Int32) : Met l yX7_want wsX7_want ({ frames := 0, cells := 0, slots := 0, locals := 0 }) (va_Pc [.ref mO, .int a1] (wB dC dI [(cI, .int)] sz (wM cI mO memA dskA rgA inA outA u))) (va_Qv (fun u' : MW => u' = (f_X7_want u a1)) (fun u' => wE dC dI [(cI, .int)] (va_A (wM cI mO memA dskA rgA inA outA u) sz) (wM cI mO memA dskA rgA inA outA u')) (va_A (wM cI mO memA dskA rgA inA outA u) sz)) 0 0 (va_A (wM cI mO memA dskA rgA inA outA u) sz) := by
  refine Met.ofW (cc := cX7_want) (maxL := 2) (ret := none) (by decide) rfl ?_
  intro p e s m args below meth c s₁ B hml hv
  obtain ⟨rfl, hsz, hP, hK, hD0⟩ := hv
  have hx := B.exec
  have hb := B.bytes
  have hr := B.returns
  have hts := atoms_spec (ws := wsX7_want) B.pre
  have hown : s.vm.findClass RX7 = some m.cls := findClass_of_methodNamed B.named
  have hlocks := B.notSynchronized
  subst hsz
  have hD := hD0.self (sz := s.heap.size)
  generalize hAe : va_A (wM cI mO memA dskA rgA inA outA u) s.heap.size = A at hD ⊢
  have hA : ∀ q : Nat, s.heap.size ≤ q → A q := fun q h => by rw [← hAe]; exact Or.inr h
  have hS : va_S A s.heap s.heap [] := va_S.rf
  have hP : va_P (dC, dI) vwCl (wM cI mO memA dskA rgA inA outA u) s.heap := hP
  clear hAe hD0
  have hl := lv_entry ([.ref mO, .int a1]) (n := 2) (Nat.le_of_ble_eq_true rfl)
  rw [lg_entry_eq]
  generalize (lg_sl ([.ref mO, .int a1]) ++ List.replicate (2 - (lg_sl ([.ref mO, .int a1])).length) Slot.unset).toArray = ls at hl ⊢
  have hl : lv_has ls 2 [(0, .ref mO), (1, .int a1)] := hl
  refine jn_H hP hS (fun H locs hP hS => ?_)
  refine lv_aload_n hx hb dX7_want_0 rfl (lv_at hl 0 rfl) ?_
  refine lv_iload_n hx hb dX7_want_1 rfl (lv_at hl 1 rfl) ?_
  refine jn_b (D := (dC, dI)) (cl := vwCl) (ws := (wM cI mO memA dskA rgA inA outA u)) (A := A) (H0 := s.heap) (nL := 2) 16 (if a1 < (0 : Int32) then true else (if a1 ≤ (7 : Int32) then false else true : Bool) : Bool) [(0, .ref mO), (1, .int a1)] [.ref mO] (fun H locs ls hP hS hl => ?_) (fun hJ1 => ?_)
  · skip
    refine va_put (D := (dC, dI)) (ci := 7) (v := .int (bI (if a1 < (0 : Int32) then true else (if a1 ≤ (7 : Int32) then false else true : Bool) : Bool))) (ty := .int) (C := RX7) (T := TX7) (N := 30) hx hb hts iX7_want_X7 tyX7 tyX7_ok nmX7 hown hK hP hD hS 0 rfl rfl 0 (by decide) (hts _ qX7_want_0) (fun _ h9 => h9) rfl (by decide +kernel) rfl rfl (Nat.le_of_ble_eq_true rfl) dX7_want_16 (fun H locs hP hD hS => ?_)
    obtain ⟨hP, hD⟩ := pM_thr hP hD
    refine lv_aload_n hx hb dX7_want_19 rfl (lv_at hl 0 rfl) ?_
    refine va_get (D := (dC, dI)) (ci := 7) (v := .int (gMW_thr (sMW_thr u (bI (if a1 < (0 : Int32) then true else (if a1 ≤ (7 : Int32) then false else true : Bool) : Bool))))) (C := RX7) (T := TX7) (N := 30) hx hb hts iX7_want_X7 hown hK hP 0 rfl rfl 0 (by decide) (hts _ qX7_want_0) (fun _ h9 => h9) rfl dX7_want_20 ?_
    refine lv_if_ne (tgt := 31) hx hb dX7_want_23 (by decide) (fun c2 => ?_) (fun c2 => ?_)
    · skip
      exact W.vret hx hb hr (fun t ht hW => ⟨⟨(sMW_thr u (bI (if a1 < (0 : Int32) then true else (if a1 ≤ (7 : Int32) then false else true : Bool) : Bool))), rfl, (by simp only [f_X7_want, if_neg c2]), by rw [ht]; exact hP, va_K.moved hW.alike hK, hD⟩, hS.F ht⟩) hS.2.2 dX7_want_31
    · skip
      refine lv_aload_n hx hb dX7_want_26 rfl (lv_at hl 0 rfl) ?_
      refine lv_iload_n hx hb dX7_want_27 rfl (lv_at hl 1 rfl) ?_
      refine va_put (D := (dC, dI)) (ci := 7) (v := .int a1) (ty := .int) (C := RX7) (T := TX7) (N := 30) hx hb hts iX7_want_X7 tyX7 tyX7_ok nmX7 hown hK hP hD hS 0 rfl rfl 14 (by decide) (hts _ qX7_want_1) (fun _ h9 => h9) rfl (by decide +kernel) rfl rfl (Nat.le_of_ble_eq_true rfl) dX7_want_28 (fun H locs hP hD hS => ?_)
      obtain ⟨hP, hD⟩ := pM_want hP hD
      exact W.vret hx hb hr (fun t ht hW => ⟨⟨(sMW_want (sMW_thr u (bI (if a1 < (0 : Int32) then true else (if a1 ≤ (7 : Int32) then false else true : Bool) : Bool))) a1), rfl, (by simp only [f_X7_want, if_pos c2]), by rw [ht]; exact hP, va_K.moved hW.alike hK, hD⟩, hS.F ht⟩) hS.2.2 dX7_want_31
  · skip
    refine lv_if_lt (tgt := 11) hx hb dX7_want_2 (by decide) (fun c3 => ?_) (fun c3 => ?_)
    · skip
      refine lv_iconst (v := 1) hx hb dX7_want_11 (by decide) ?_
      refine lv_goto (tgt := 16) hx hb dX7_want_12 (by decide) ?_
      exact hJ1 true _ _ _ (by simp only [if_pos c3]) hP hS (lv_sub hl [0, 1] rfl)
    · skip
      refine lv_iload_n hx hb dX7_want_5 rfl (lv_at hl 1 rfl) ?_
      refine lv_bipush (v := 7) hx hb dX7_want_6 (by decide) ?_
      refine jn_b (D := (dC, dI)) (cl := vwCl) (ws := (wM cI mO memA dskA rgA inA outA u)) (A := A) (H0 := s.heap) (nL := 2) 16 (if a1 ≤ (7 : Int32) then false else true : Bool) [(0, .ref mO), (1, .int a1)] [.ref mO] (fun H locs ls hP hS hl => ?_) (fun hJ4 => ?_)
      · skip
        exact hJ1 (if a1 ≤ (7 : Int32) then false else true : Bool) _ _ _ (by simp only [if_neg c3]) hP hS (lv_sub hl [0, 1] rfl)
      · skip
        refine lv_icmp_le (tgt := 15) hx hb dX7_want_8 (by decide) (fun c5 => ?_) (fun c5 => ?_)
        · skip
          refine lv_iconst (v := 0) hx hb dX7_want_15 (by decide) ?_
          exact hJ4 false _ _ _ (by simp only [if_pos c5]) hP hS (lv_sub hl [0, 1] rfl)
        · skip
          refine lv_iconst (v := 1) hx hb dX7_want_11 (by decide) ?_
          refine lv_goto (tgt := 16) hx hb dX7_want_12 (by decide) ?_
          exact hJ4 true _ _ _ (by simp only [if_neg c5]) hP hS (lv_sub hl [0, 1] rfl)

def f_X7_cycles (u : MW) : Int64 × MW := ((gMW_cyc (sMW_thr u 0)), (sMW_thr u 0))
theorem qX7_cycles_0 : Cond.fieldLink RX7 29 "DiskMachineModel" "thrown" "I" ∈ wsX7_cycles := by decide +kernel
theorem qX7_cycles_1 : Cond.fieldLink RX7 137 "DiskMachineModel" "cycles" "J" ∈ wsX7_cycles := by decide +kernel
theorem iX7_cycles_X7 : ∀ w ∈ wsX70, w ∈ wsX7_cycles := by decide +kernel
set_option maxHeartbeats 4000000 in
set_option maxRecDepth 100000 in
theorem k_X7_cycles (l : Launch) (dC : Nat → ClassId) (dI : Nat → Nat → Nat) (cI : ClassId) (mO memA dskA rgA inA outA : Nat) (sz : Nat) (u : MW) : Met l yX7_cycles wsX7_cycles ({ frames := 0, cells := 0, slots := 0, locals := 0 }) (va_Pc [.ref mO] (wB dC dI [(cI, .int)] sz (wM cI mO memA dskA rgA inA outA u))) (va_Ql (fun (r : Int64) (u' : MW) => r = (f_X7_cycles u).1 ∧ u' = (f_X7_cycles u).2) (fun u' => wE dC dI [(cI, .int)] (va_A (wM cI mO memA dskA rgA inA outA u) sz) (wM cI mO memA dskA rgA inA outA u')) (va_A (wM cI mO memA dskA rgA inA outA u) sz)) 0 0 (va_A (wM cI mO memA dskA rgA inA outA u) sz) := by
  refine Met.ofW (cc := cX7_cycles) (maxL := 1) (ret := (some .long)) (by decide) rfl ?_
  intro p e s m args below meth c s₁ B hml hv
  obtain ⟨rfl, hsz, hP, hK, hD0⟩ := hv
  have hx := B.exec
  have hb := B.bytes
  have hr := B.returns
  have hts := atoms_spec (ws := wsX7_cycles) B.pre
  have hown : s.vm.findClass RX7 = some m.cls := findClass_of_methodNamed B.named
  have hlocks := B.notSynchronized
  subst hsz
  have hD := hD0.self (sz := s.heap.size)
  generalize hAe : va_A (wM cI mO memA dskA rgA inA outA u) s.heap.size = A at hD ⊢
  have hA : ∀ q : Nat, s.heap.size ≤ q → A q := fun q h => by rw [← hAe]; exact Or.inr h
  have hS : va_S A s.heap s.heap [] := va_S.rf
  have hP : va_P (dC, dI) vwCl (wM cI mO memA dskA rgA inA outA u) s.heap := hP
  clear hAe hD0
  have hl := lv_entry ([.ref mO]) (n := 1) (Nat.le_of_ble_eq_true rfl)
  rw [lg_entry_eq]
  generalize (lg_sl ([.ref mO]) ++ List.replicate (1 - (lg_sl ([.ref mO])).length) Slot.unset).toArray = ls at hl ⊢
  have hl : lv_has ls 1 [(0, .ref mO)] := hl
  refine jn_H hP hS (fun H locs hP hS => ?_)
  refine lv_aload_n hx hb dX7_cycles_0 rfl (lv_at hl 0 rfl) ?_
  refine lv_iconst (v := 0) hx hb dX7_cycles_1 (by decide) ?_
  refine va_put (D := (dC, dI)) (ci := 7) (v := .int 0) (ty := .int) (C := RX7) (T := TX7) (N := 30) hx hb hts iX7_cycles_X7 tyX7 tyX7_ok nmX7 hown hK hP hD hS 0 rfl rfl 0 (by decide) (hts _ qX7_cycles_0) (fun _ h9 => h9) rfl (by decide +kernel) rfl rfl (Nat.le_of_ble_eq_true rfl) dX7_cycles_2 (fun H locs hP hD hS => ?_)
  obtain ⟨hP, hD⟩ := pM_thr hP hD
  refine lv_aload_n hx hb dX7_cycles_5 rfl (lv_at hl 0 rfl) ?_
  refine va_get (D := (dC, dI)) (ci := 7) (v := .long (gMW_cyc (sMW_thr u 0))) (C := RX7) (T := TX7) (N := 30) hx hb hts iX7_cycles_X7 hown hK hP 0 rfl rfl 15 (by decide) (hts _ qX7_cycles_1) (fun _ h9 => h9) rfl dX7_cycles_6 ?_
  exact W.lret (v := (gMW_cyc (sMW_thr u 0))) hx hb hr (fun t ht hW => ⟨⟨(gMW_cyc (sMW_thr u 0)), (sMW_thr u 0), rfl, ⟨rfl, rfl⟩, by rw [ht]; exact hP, va_K.moved hW.alike hK, hD⟩, hS.F ht⟩) hS.2.2 dX7_cycles_9
