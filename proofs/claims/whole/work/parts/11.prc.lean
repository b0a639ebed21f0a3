def f_X4_shows (a1 : Int32) : Bool := (if a1 < (0 : Int32) then false else (if (9 : Int32) < a1 then false else true : Bool) : Bool)

set_option maxHeartbeats 4000000 in
set_option maxRecDepth 100000 in
theorem k_X4_shows (l : Launch) (dC : Nat → ClassId) (dI : Nat → Nat → Nat) (sz : Nat) (a1 : Int32) : Met l yX4_shows wsX4_shows ({ frames := 0, cells := 0, slots := 0, locals := 0 }) (va_Pc [.int a1] (wB dC dI [] sz ([] : va_W))) (va_Qi (fun (r : Int32) (u' : Unit) => r = (bI (f_X4_shows a1)) ∧ u' = ()) (fun u' => wE dC dI [] (va_A ([] : va_W) sz) ([] : va_W)) (va_A ([] : va_W) sz)) 0 0 (va_A ([] : va_W) sz) := by
  refine Met.ofW (cc := cX4_shows) (maxL := 1) (ret := (some .boolean)) (by decide) rfl ?_
  intro p e s m args below meth c s₁ B hml hv
  obtain ⟨rfl, hsz, hP, hK, hD0⟩ := hv
  have hx := B.exec
  have hb := B.bytes
  have hr := B.returns
  have hts := atoms_spec (ws := wsX4_shows) B.pre
  have hown : s.vm.findClass RX4 = some m.cls := findClass_of_methodNamed B.named
  have hlocks := B.notSynchronized
  subst hsz
  have hD := hD0.self (sz := s.heap.size)
  generalize hAe : va_A ([] : va_W) s.heap.size = A at hD ⊢
  have hA : ∀ q : Nat, s.heap.size ≤ q → A q := fun q h => by rw [← hAe]; exact Or.inr h
  have hS : va_S A s.heap s.heap [] := va_S.rf
  have hP : va_P (dC, dI) vwCl ([] : va_W) s.heap := hP
  clear hAe hD0
  have hl := lv_entry ([.int a1]) (n := 1) (Nat.le_of_ble_eq_true rfl)
  rw [lg_entry_eq]
  generalize (lg_sl ([.int a1]) ++ List.replicate (1 - (lg_sl ([.int a1])).length) Slot.unset).toArray = ls at hl ⊢
  have hl : lv_has ls 1 [(0, .int a1)] := hl
  refine jn_H hP hS (fun H locs hP hS => ?_)
  refine lv_iload_n hx hb dX4_shows_0 rfl (lv_at hl 0 rfl) ?_
  refine jn_b (D := (dC, dI)) (cl := vwCl) (ws := ([] : va_W)) (A := A) (H0 := s.heap) (nL := 1) 15 (if a1 < (0 : Int32) then false else (if (9 : Int32) < a1 then false else true : Bool) : Bool) [(0, .int a1)] [] (fun H locs ls hP hS hl => ?_) (fun hJ1 => ?_)
  · skip
    exact W.zret (v := (bI (if a1 < (0 : Int32) then false else (if (9 : Int32) < a1 then false else true : Bool) : Bool))) hx hb hr (bI_nar (if a1 < (0 : Int32) then false else (if (9 : Int32) < a1 then false else true : Bool) : Bool)) (fun t ht hW => ⟨⟨(bI (if a1 < (0 : Int32) then false else (if (9 : Int32) < a1 then false else true : Bool) : Bool)), (), rfl, ⟨rfl, rfl⟩, by rw [ht]; exact hP, va_K.moved hW.alike hK, hD⟩, hS.F ht⟩) hS.2.2 dX4_shows_15
  · skip
    refine lv_if_lt (tgt := 14) hx hb dX4_shows_1 (by decide) (fun c2 => ?_) (fun c2 => ?_)
    · skip
      refine lv_iconst (v := 0) hx hb dX4_shows_14 (by decide) ?_
      exact hJ1 false _ _ _ (by simp only [if_pos c2]) hP hS (lv_sub hl [0] rfl)
    · skip
      refine lv_iload_n hx hb dX4_shows_4 rfl (lv_at hl 0 rfl) ?_
      refine lv_bipush (v := 9) hx hb dX4_shows_5 (by decide) ?_
      refine jn_b (D := (dC, dI)) (cl := vwCl) (ws := ([] : va_W)) (A := A) (H0 := s.heap) (nL := 1) 15 (if (9 : Int32) < a1 then false else true : Bool) [(0, .int a1)] [] (fun H locs ls hP hS hl => ?_) (fun hJ3 => ?_)
      · skip
        exact hJ1 (if (9 : Int32) < a1 then false else true : Bool) _ _ _ (by simp only [if_neg c2]) hP hS (lv_sub hl [0] rfl)
      · skip
        refine lv_icmp_gt (tgt := 14) hx hb dX4_shows_7 (by decide) (fun c4 => ?_) (fun c4 => ?_)
        · skip
          refine lv_iconst (v := 0) hx hb dX4_shows_14 (by decide) ?_
          exact hJ3 false _ _ _ (by simp only [if_pos c4]) hP hS (lv_sub hl [0] rfl)
        · skip
          refine lv_iconst (v := 1) hx hb dX4_shows_10 (by decide) ?_
          refine lv_goto (tgt := 15) hx hb dX4_shows_11 (by decide) ?_
          exact hJ3 true _ _ _ (by simp only [if_neg c4]) hP hS (lv_sub hl [0] rfl)

def f_X4_shown (u : PW) (a1 : Int32) : Int32 := 
  if a1 = 6 then (f_X3_packed (gPW_F u))
  else 
    if a1 = 7 then ((gPW_P_r u) ((a1 &&& (7 : Int32)) : Int32).toNatClampNeg)
    else 
      if a1 = 8 then (gPW_P_pc u)
      else 
        if a1 = 9 then (gPW_P_sp u)
        else ((gPW_P_r u) ((a1 &&& (7 : Int32)) : Int32).toNatClampNeg)
theorem qX4_shown_0 : Cond.fieldLink RX4 27 "DiskMachine$Processor" "registers" "[I" ∈ wsX4_shown := by decide +kernel
theorem qX4_shown_1 : Cond.fieldLink RX4 54 "DiskMachine$Processor" "sp" "I" ∈ wsX4_shown := by decide +kernel
theorem qX4_shown_2 : Cond.fieldLink RX4 51 "DiskMachine$Processor" "pc" "I" ∈ wsX4_shown := by decide +kernel
theorem qX4_shown_3 : Cond.fieldLink RX4 12 "DiskMachine$Processor" "flags" "LDiskMachine$Flags;" ∈ wsX4_shown := by decide +kernel
theorem iX4_shown_X4 : ∀ w ∈ wsX40, w ∈ wsX4_shown := by decide +kernel
set_option maxHeartbeats 4000000 in
set_option maxRecDepth 100000 in
theorem k_X4_shown (l : Launch) (dC : Nat → ClassId) (dI : Nat → Nat → Nat) (cI : ClassId) (pO mS mA dS dA cO iA oA kO fO aO rA : Nat) (sz : Nat) (u : PW) (a1 : Int32) : Met l yX4_shown wsX4_shown ({ frames := 1, cells := 0, slots := 0, locals := 20 }) (va_Pc [.ref pO, .int a1] (wB dC dI [(cI, .int)] sz (wP cI pO mS mA dS dA cO iA oA kO fO aO rA u))) (va_Qi (fun (r : Int32) (u' : PW) => r = (f_X4_shown u a1) ∧ u' = u) (fun u' => wE dC dI [(cI, .int)] (va_A (wP cI pO mS mA dS dA cO iA oA kO fO aO rA u) sz) (wP cI pO mS mA dS dA cO iA oA kO fO aO rA u')) (va_A (wP cI pO mS mA dS dA cO iA oA kO fO aO rA u) sz)) 0 0 (va_A (wP cI pO mS mA dS dA cO iA oA kO fO aO rA u) sz) := by
  refine Met.ofW (cc := cX4_shown) (maxL := 2) (ret := (some .int)) (by decide) rfl ?_
  intro p e s m args below meth c s₁ B hml hv
  obtain ⟨rfl, hsz, hP, hK, hD0⟩ := hv
  have hx := B.exec
  have hb := B.bytes
  have hr := B.returns
  have hts := atoms_spec (ws := wsX4_shown) B.pre
  have hown : s.vm.findClass RX4 = some m.cls := findClass_of_methodNamed B.named
  have hlocks := B.notSynchronized
  subst hsz
  have hD := hD0.self (sz := s.heap.size)
  generalize hAe : va_A (wP cI pO mS mA dS dA cO iA oA kO fO aO rA u) s.heap.size = A at hD ⊢
  have hA : ∀ q : Nat, s.heap.size ≤ q → A q := fun q h => by rw [← hAe]; exact Or.inr h
  have hS : va_S A s.heap s.heap [] := va_S.rf
  have hP : va_P (dC, dI) vwCl (wP cI pO mS mA dS dA cO iA oA kO fO aO rA u) s.heap := hP
  clear hAe hD0
  have hl := lv_entry ([.ref pO, .int a1]) (n := 2) (Nat.le_of_ble_eq_true rfl)
  rw [lg_entry_eq]
  generalize (lg_sl ([.ref pO, .int a1]) ++ List.replicate (2 - (lg_sl ([.ref pO, .int a1])).length) Slot.unset).toArray = ls at hl ⊢
  have hl : lv_has ls 2 [(0, .ref pO), (1, .int a1)] := hl
  refine jn_H hP hS (fun H locs hP hS => ?_)
  refine lv_iload_n hx hb dX4_shown_0 rfl (lv_at hl 1 rfl) ?_
  by_cases c1 : a1 = 6
  · refine tb_in (k := 6) (off := 31) (tgt := 32) hx hb dX4_shown_1 c1 (by decide) (by decide) (by decide) (by decide) ?_
    refine lv_aload_n hx hb dX4_shown_32 rfl (lv_at hl 0 rfl) ?_
    refine va_get (D := (dC, dI)) (ci := 4) (v := .ref fO) (C := RX4) (T := TX4) (N := 13) hx hb hts iX4_shown_X4 hown hK hP 0 rfl rfl 3 (by decide) (hts _ qX4_shown_3) (fun _ h9 => h9) rfl dX4_shown_33 ?_
    obtain ⟨hPc, hDc, hFc⟩ := xP_F hP hD hS hA
    have hKc := hK.sub (tys' := [(cI, .int)]) [0] rfl
    refine va_calli (va_runV (As := []) (rest := []) ⟨hx, hb, hml, hown, hts⟩ (k_X3_packed l dC dI cI fO H.size (gPW_F u)) (cwV 0 hts gX4_shown_X3_packed rfl rfl rfl (by decide +kernel) ⟨Nat.le_of_ble_eq_true rfl, Nat.le_of_ble_eq_true rfl⟩) ⟨fun a U g mk q => by obtain ⟨q0, q1, qP, qK, qD⟩ := q; exact ⟨q0, q1, qP, va_K.moved (u := U) (U := U.calling g mk a) (Vm.Alike.refl U.vm) qK, qD⟩, va_recv hKc hPc (ci := 3) (q0 := 0) rfl rfl, fun U hU hW => ⟨rfl, by rw [hU], by rw [hU]; exact hPc, va_K.moved hW.alike hKc, hDc.weaken (fun _ _ _ _ => trivial)⟩⟩ rfl rfl hl.1 rfl (lv_room (Nat.le_of_ble_eq_true rfl)) dX4_shown_36 ⟨Nat.le_of_ble_eq_true rfl, Nat.le_of_ble_eq_true rfl⟩) hS (fun q _ h => hFc q h) hFc (fun r9 u9 t H1 locs ht hvm hw hB hz1 hk1 hS => ?_)
    obtain ⟨hw1, hw2⟩ := hw
    have hw2 := hw2.symm
    subst hw1 hw2
    obtain ⟨hP1, hK1, hD1⟩ := hB
    rw [ht] at hP1
    obtain ⟨hP, hD⟩ := jP_F0 hP hD hk1 hFc hP1 hD1
    clear hPc hDc hKc hFc hz1 hk1 hP1 hK1 hD1 ht hvm
    generalize H1 = H at hP hS ⊢
    exact W.iret (v := (f_X3_packed (gPW_F u))) hx hb hr (fun t ht hW => ⟨⟨(f_X3_packed (gPW_F u)), u, rfl, ⟨(by simp only [f_X4_shown, if_pos c1]), rfl⟩, by rw [ht]; exact hP, va_K.moved hW.alike hK, hD⟩, hS.F ht⟩) hS.2.2 dX4_shown_39
  · skip
    by_cases c2 : a1 = 7
    · refine tb_in (k := 7) (off := 49) (tgt := 50) hx hb dX4_shown_1 c2 (by decide) (by decide) (by decide) (by decide) ?_
      refine lv_aload_n hx hb dX4_shown_50 rfl (lv_at hl 0 rfl) ?_
      refine va_get (D := (dC, dI)) (ci := 4) (v := .ref rA) (C := RX4) (T := TX4) (N := 13) hx hb hts iX4_shown_X4 hown hK hP 0 rfl rfl 5 (by decide) (hts _ qX4_shown_0) (fun _ h9 => h9) rfl dX4_shown_51 ?_
      refine lv_iload_n hx hb dX4_shown_54 rfl (lv_at hl 1 rfl) ?_
      refine lv_bipush (v := 7) hx hb dX4_shown_55 (by decide) ?_
      refine lv_iand hx hb dX4_shown_57 ?_
      refine va_iald (f := (gPW_P_r u)) hx hb hK hP 11 0 rfl rfl (ix_8 _) dX4_shown_58 ?_
      exact W.iret (v := ((gPW_P_r u) ((a1 &&& (7 : Int32)) : Int32).toNatClampNeg)) hx hb hr (fun t ht hW => ⟨⟨((gPW_P_r u) ((a1 &&& (7 : Int32)) : Int32).toNatClampNeg), u, rfl, ⟨(by simp only [f_X4_shown, if_neg c1, if_pos c2]), rfl⟩, by rw [ht]; exact hP, va_K.moved hW.alike hK, hD⟩, hS.F ht⟩) hS.2.2 dX4_shown_59
    · skip
      by_cases c3 : a1 = 8
      · refine tb_in (k := 8) (off := 39) (tgt := 40) hx hb dX4_shown_1 c3 (by decide) (by decide) (by decide) (by decide) ?_
        refine lv_aload_n hx hb dX4_shown_40 rfl (lv_at hl 0 rfl) ?_
        refine va_get (D := (dC, dI)) (ci := 4) (v := .int (gPW_P_pc u)) (C := RX4) (T := TX4) (N := 13) hx hb hts iX4_shown_X4 hown hK hP 0 rfl rfl 6 (by decide) (hts _ qX4_shown_2) (fun _ h9 => h9) rfl dX4_shown_41 ?_
        exact W.iret (v := (gPW_P_pc u)) hx hb hr (fun t ht hW => ⟨⟨(gPW_P_pc u), u, rfl, ⟨(by simp only [f_X4_shown, if_neg c1, if_neg c2, if_pos c3]), rfl⟩, by rw [ht]; exact hP, va_K.moved hW.alike hK, hD⟩, hS.F ht⟩) hS.2.2 dX4_shown_44
      · skip
        by_cases c4 : a1 = 9
        · refine tb_in (k := 9) (off := 44) (tgt := 45) hx hb dX4_shown_1 c4 (by decide) (by decide) (by decide) (by decide) ?_
          refine lv_aload_n hx hb dX4_shown_45 rfl (lv_at hl 0 rfl) ?_
          refine va_get (D := (dC, dI)) (ci := 4) (v := .int (gPW_P_sp u)) (C := RX4) (T := TX4) (N := 13) hx hb hts iX4_shown_X4 hown hK hP 0 rfl rfl 7 (by decide) (hts _ qX4_shown_1) (fun _ h9 => h9) rfl dX4_shown_46 ?_
          exact W.iret (v := (gPW_P_sp u)) hx hb hr (fun t ht hW => ⟨⟨(gPW_P_sp u), u, rfl, ⟨(by simp only [f_X4_shown, if_neg c1, if_neg c2, if_neg c3, if_pos c4]), rfl⟩, by rw [ht]; exact hP, va_K.moved hW.alike hK, hD⟩, hS.F ht⟩) hS.2.2 dX4_shown_49
        · skip
          refine lv_tableOut (tgt := 50) hx hb dX4_shown_1 (by have r6 := lv_neT c1 (a := 6) (by decide); have r7 := lv_neT c2 (a := 7) (by decide); have r8 := lv_neT c3 (a := 8) (by decide); have r9 := lv_neT c4 (a := 9) (by decide); omega) (by decide) ?_
          refine lv_aload_n hx hb dX4_shown_50 rfl (lv_at hl 0 rfl) ?_
          refine va_get (D := (dC, dI)) (ci := 4) (v := .ref rA) (C := RX4) (T := TX4) (N := 13) hx hb hts iX4_shown_X4 hown hK hP 0 rfl rfl 5 (by decide) (hts _ qX4_shown_0) (fun _ h9 => h9) rfl dX4_shown_51 ?_
          refine lv_iload_n hx hb dX4_shown_54 rfl (lv_at hl 1 rfl) ?_
          refine lv_bipush (v := 7) hx hb dX4_shown_55 (by decide) ?_
          refine lv_iand hx hb dX4_shown_57 ?_
          refine va_iald (f := (gPW_P_r u)) hx hb hK hP 11 0 rfl rfl (ix_8 _) dX4_shown_58 ?_
          exact W.iret (v := ((gPW_P_r u) ((a1 &&& (7 : Int32)) : Int32).toNatClampNeg)) hx hb hr (fun t ht hW => ⟨⟨((gPW_P_r u) ((a1 &&& (7 : Int32)) : Int32).toNatClampNeg), u, rfl, ⟨(by simp only [f_X4_shown, if_neg c1, if_neg c2, if_neg c3, if_neg c4]), rfl⟩, by rw [ht]; exact hP, va_K.moved hW.alike hK, hD⟩, hS.F ht⟩) hS.2.2 dX4_shown_59

def f_X4_change (u : PW) (a1 : Int32) (a2 : Int32) : PW := 
  if a1 = 6 then (sPW_F u (f_X3_unpack (gPW_F u) a2))
  else 
    if a1 = 7 then (sPW_P_r u (upd (gPW_P_r u) ((a1 &&& (7 : Int32)) : Int32).toNatClampNeg (a2 &&& (255 : Int32))))
    else 
      if a1 = 8 then (sPW_P_pc u (a2 &&& (65535 : Int32)))
      else 
        if a1 = 9 then (sPW_P_sp u (a2 &&& (65535 : Int32)))
        else (sPW_P_r u (upd (gPW_P_r u) ((a1 &&& (7 : Int32)) : Int32).toNatClampNeg (a2 &&& (255 : Int32))))
theorem qX4_change_0 : Cond.fieldLink RX4 27 "DiskMachine$Processor" "registers" "[I" ∈ wsX4_change := by decide +kernel
theorem qX4_change_1 : Cond.constant RX4 61 (65535) ∈ wsX4_change := by decide +kernel
theorem qX4_change_2 : Cond.fieldLink RX4 54 "DiskMachine$Processor" "sp" "I" ∈ wsX4_change := by decide +kernel
theorem qX4_change_3 : Cond.fieldLink RX4 51 "DiskMachine$Processor" "pc" "I" ∈ wsX4_change := by decide +kernel
theorem qX4_change_4 : Cond.fieldLink RX4 12 "DiskMachine$Processor" "flags" "LDiskMachine$Flags;" ∈ wsX4_change := by decide +kernel
theorem iX4_change_X4 : ∀ w ∈ wsX40, w ∈ wsX4_change := by decide +kernel
set_option maxHeartbeats 4000000 in
set_option maxRecDepth 100000 in
theorem k_X4_change (l : Launch) (dC : Nat → ClassId) (dI : Nat → Nat → Nat) (cI : ClassId) (pO mS mA dS dA cO iA oA kO fO aO rA : Nat) (sz : Nat) (u : PW) (a1 : Int32) (a2 : Int32) : Met l yX4_change wsX4_change ({ frames := 1, cells := 0, slots := 0, locals := 21 }) (va_Pc [.ref pO, .int a1, .int a2] (wB dC dI [(cI, .int)] sz (wP cI pO mS mA dS dA cO iA oA kO fO aO rA u))) (va_Qv (fun u' : PW => u' = (f_X4_change u a1 a2)) (fun u' => wE dC dI [(cI, .int)] (va_A (wP cI pO mS mA dS dA cO iA oA kO fO aO rA u) sz) (wP cI pO mS mA dS dA cO iA oA kO fO aO rA u')) (va_A (wP cI pO mS mA dS dA cO iA oA kO fO aO rA u) sz)) 0 0 (va_A (wP cI pO mS mA dS dA cO iA oA kO fO aO rA u) sz) := by
  refine Met.ofW (cc := cX4_change) (maxL := 3) (ret := none) (by decide) rfl ?_
  intro p e s m args below meth c s₁ B hml hv
  obtain ⟨rfl, hsz, hP, hK, hD0⟩ := hv
  have hx := B.exec
  have hb := B.bytes
  have hr := B.returns
  have hts := atoms_spec (ws := wsX4_change) B.pre
  have hown : s.vm.findClass RX4 = some m.cls := findClass_of_methodNamed B.named
  have hlocks := B.notSynchronized
  subst hsz
  have hD := hD0.self (sz := s.heap.size)
  generalize hAe : va_A (wP cI pO mS mA dS dA cO iA oA kO fO aO rA u) s.heap.size = A at hD ⊢
  have hA : ∀ q : Nat, s.heap.size ≤ q → A q := fun q h => by rw [← hAe]; exact Or.inr h
  have hS : va_S A s.heap s.heap [] := va_S.rf
  have hP : va_P (dC, dI) vwCl (wP cI pO mS mA dS dA cO iA oA kO fO aO rA u) s.heap := hP
  clear hAe hD0
  have hl := lv_entry ([.ref pO, .int a1, .int a2]) (n := 3) (Nat.le_of_ble_eq_true rfl)
  rw [lg_entry_eq]
  generalize (lg_sl ([.ref pO, .int a1, .int a2]) ++ List.replicate (3 - (lg_sl ([.ref pO, .int a1, .int a2])).length) Slot.unset).toArray = ls at hl ⊢
  have hl : lv_has ls 3 [(0, .ref pO), (1, .int a1), (2, .int a2)] := hl
  refine jn_H hP hS (fun H locs hP hS => ?_)
  refine lv_iload_n hx hb dX4_change_0 rfl (lv_at hl 1 rfl) ?_
  by_cases c1 : a1 = 6
  · refine tb_in (k := 6) (off := 31) (tgt := 32) hx hb dX4_change_1 c1 (by decide) (by decide) (by decide) (by decide) ?_
    refine lv_aload_n hx hb dX4_change_32 rfl (lv_at hl 0 rfl) ?_
    refine va_get (D := (dC, dI)) (ci := 4) (v := .ref fO) (C := RX4) (T := TX4) (N := 13) hx hb hts iX4_change_X4 hown hK hP 0 rfl rfl 3 (by decide) (hts _ qX4_change_4) (fun _ h9 => h9) rfl dX4_change_33 ?_
    refine lv_iload_n hx hb dX4_change_36 rfl (lv_at hl 2 rfl) ?_
    obtain ⟨hPc, hDc, hFc⟩ := xP_F hP hD hS hA
    have hKc := hK.sub (tys' := [(cI, .int)]) [0] rfl
    refine va_callv (va_runV (As := [.int a2]) (rest := []) ⟨hx, hb, hml, hown, hts⟩ (k_X3_unpack l dC dI cI fO H.size (gPW_F u) a2) (cwV 1 hts gX4_change_X3_unpack rfl rfl rfl (by decide +kernel) ⟨Nat.le_of_ble_eq_true rfl, Nat.le_of_ble_eq_true rfl⟩) ⟨fun a U g mk q => by obtain ⟨q0, q1, qP, qK, qD⟩ := q; exact ⟨q0, q1, qP, va_K.moved (u := U) (U := U.calling g mk a) (Vm.Alike.refl U.vm) qK, qD⟩, va_recv hKc hPc (ci := 3) (q0 := 0) rfl rfl, fun U hU hW => ⟨rfl, by rw [hU], by rw [hU]; exact hPc, va_K.moved hW.alike hKc, hDc.weaken (fun _ _ _ _ => trivial)⟩⟩ rfl rfl hl.1 rfl (lv_room (Nat.le_of_ble_eq_true rfl)) dX4_change_37 ⟨Nat.le_of_ble_eq_true rfl, Nat.le_of_ble_eq_true rfl⟩) hS (fun q _ h => hFc q h) hFc (fun u9 t H1 locs ht hvm hw hB hz1 hk1 hS => ?_)
    subst hw
    obtain ⟨hP1, hK1, hD1⟩ := hB
    rw [ht] at hP1
    obtain ⟨hP, hD⟩ := jP_F hP hD hk1 hFc hP1 hD1
    clear hPc hDc hKc hFc hz1 hk1 hP1 hK1 hD1 ht hvm
    generalize H1 = H at hP hS ⊢
    refine lv_goto (tgt := 79) hx hb dX4_change_40 (by decide) ?_
    exact W.vret hx hb hr (fun t ht hW => ⟨⟨(sPW_F u (f_X3_unpack (gPW_F u) a2)), rfl, (by simp only [f_X4_change, if_pos c1]), by rw [ht]; exact hP, va_K.moved hW.alike hK, hD⟩, hS.F ht⟩) hS.2.2 dX4_change_79
  · skip
    by_cases c2 : a1 = 7
    · refine tb_in (k := 7) (off := 64) (tgt := 65) hx hb dX4_change_1 c2 (by decide) (by decide) (by decide) (by decide) ?_
      refine lv_aload_n hx hb dX4_change_65 rfl (lv_at hl 0 rfl) ?_
      refine va_get (D := (dC, dI)) (ci := 4) (v := .ref rA) (C := RX4) (T := TX4) (N := 13) hx hb hts iX4_change_X4 hown hK hP 0 rfl rfl 5 (by decide) (hts _ qX4_change_0) (fun _ h9 => h9) rfl dX4_change_66 ?_
      refine lv_iload_n hx hb dX4_change_69 rfl (lv_at hl 1 rfl) ?_
      refine lv_bipush (v := 7) hx hb dX4_change_70 (by decide) ?_
      refine lv_iand hx hb dX4_change_72 ?_
      refine lv_iload_n hx hb dX4_change_73 rfl (lv_at hl 2 rfl) ?_
      refine lv_sipush (v := 255) hx hb dX4_change_74 (by decide) ?_
      refine lv_iand hx hb dX4_change_77 ?_
      refine va_iast (f := (gPW_P_r u)) hx hb hK hP hD hS 11 0 rfl rfl (ix_8 _) dX4_change_78 (fun H locs hP hD hS => ?_)
      obtain ⟨hP, hD⟩ := aP_rA hP hD
      exact W.vret hx hb hr (fun t ht hW => ⟨⟨(sPW_P_r u (upd (gPW_P_r u) ((a1 &&& (7 : Int32)) : Int32).toNatClampNeg (a2 &&& (255 : Int32)))), rfl, (by simp only [f_X4_change, if_neg c1, if_pos c2]), by rw [ht]; exact hP, va_K.moved hW.alike hK, hD⟩, hS.F ht⟩) hS.2.2 dX4_change_79
    · skip
      by_cases c3 : a1 = 8
      · refine tb_in (k := 8) (off := 42) (tgt := 43) hx hb dX4_change_1 c3 (by decide) (by decide) (by decide) (by decide) ?_
        refine lv_aload_n hx hb dX4_change_43 rfl (lv_at hl 0 rfl) ?_
        refine lv_iload_n hx hb dX4_change_44 rfl (lv_at hl 2 rfl) ?_
        refine lv_ldc (v := 65535) hx hb hown (hts _ qX4_change_1) dX4_change_45 ?_
        refine lv_iand hx hb dX4_change_47 ?_
        refine va_put (D := (dC, dI)) (ci := 4) (v := .int (a2 &&& (65535 : Int32))) (ty := .int) (C := RX4) (T := TX4) (N := 13) hx hb hts iX4_change_X4 tyX4 tyX4_ok nmX4 hown hK hP hD hS 0 rfl rfl 6 (by decide) (hts _ qX4_change_3) (fun _ h9 => h9) rfl (by decide +kernel) rfl rfl (Nat.le_of_ble_eq_true rfl) dX4_change_48 (fun H locs hP hD hS => ?_)
        obtain ⟨hP, hD⟩ := pP_P_pc hP hD
        refine lv_goto (tgt := 79) hx hb dX4_change_51 (by decide) ?_
        exact W.vret hx hb hr (fun t ht hW => ⟨⟨(sPW_P_pc u (a2 &&& (65535 : Int32))), rfl, (by simp only [f_X4_change, if_neg c1, if_neg c2, if_pos c3]), by rw [ht]; exact hP, va_K.moved hW.alike hK, hD⟩, hS.F ht⟩) hS.2.2 dX4_change_79
      · skip
        by_cases c4 : a1 = 9
        · refine tb_in (k := 9) (off := 53) (tgt := 54) hx hb dX4_change_1 c4 (by decide) (by decide) (by decide) (by decide) ?_
          refine lv_aload_n hx hb dX4_change_54 rfl (lv_at hl 0 rfl) ?_
          refine lv_iload_n hx hb dX4_change_55 rfl (lv_at hl 2 rfl) ?_
          refine lv_ldc (v := 65535) hx hb hown (hts _ qX4_change_1) dX4_change_56 ?_
          refine lv_iand hx hb dX4_change_58 ?_
          refine va_put (D := (dC, dI)) (ci := 4) (v := .int (a2 &&& (65535 : Int32))) (ty := .int) (C := RX4) (T := TX4) (N := 13) hx hb hts iX4_change_X4 tyX4 tyX4_ok nmX4 hown hK hP hD hS 0 rfl rfl 7 (by decide) (hts _ qX4_change_2) (fun _ h9 => h9) rfl (by decide +kernel) rfl rfl (Nat.le_of_ble_eq_true rfl) dX4_change_59 (fun H locs hP hD hS => ?_)
          obtain ⟨hP, hD⟩ := pP_P_sp hP hD
          refine lv_goto (tgt := 79) hx hb dX4_change_62 (by decide) ?_
          exact W.vret hx hb hr (fun t ht hW => ⟨⟨(sPW_P_sp u (a2 &&& (65535 : Int32))), rfl, (by simp only [f_X4_change, if_neg c1, if_neg c2, if_neg c3, if_pos c4]), by rw [ht]; exact hP, va_K.moved hW.alike hK, hD⟩, hS.F ht⟩) hS.2.2 dX4_change_79
        · skip
          refine lv_tableOut (tgt := 65) hx hb dX4_change_1 (by have r6 := lv_neT c1 (a := 6) (by decide); have r7 := lv_neT c2 (a := 7) (by decide); have r8 := lv_neT c3 (a := 8) (by decide); have r9 := lv_neT c4 (a := 9) (by decide); omega) (by decide) ?_
          refine lv_aload_n hx hb dX4_change_65 rfl (lv_at hl 0 rfl) ?_
          refine va_get (D := (dC, dI)) (ci := 4) (v := .ref rA) (C := RX4) (T := TX4) (N := 13) hx hb hts iX4_change_X4 hown hK hP 0 rfl rfl 5 (by decide) (hts _ qX4_change_0) (fun _ h9 => h9) rfl dX4_change_66 ?_
          refine lv_iload_n hx hb dX4_change_69 rfl (lv_at hl 1 rfl) ?_
          refine lv_bipush (v := 7) hx hb dX4_change_70 (by decide) ?_
          refine lv_iand hx hb dX4_change_72 ?_
          refine lv_iload_n hx hb dX4_change_73 rfl (lv_at hl 2 rfl) ?_
          refine lv_sipush (v := 255) hx hb dX4_change_74 (by decide) ?_
          refine lv_iand hx hb dX4_change_77 ?_
          refine va_iast (f := (gPW_P_r u)) hx hb hK hP hD hS 11 0 rfl rfl (ix_8 _) dX4_change_78 (fun H locs hP hD hS => ?_)
          obtain ⟨hP, hD⟩ := aP_rA hP hD
          exact W.vret hx hb hr (fun t ht hW => ⟨⟨(sPW_P_r u (upd (gPW_P_r u) ((a1 &&& (7 : Int32)) : Int32).toNatClampNeg (a2 &&& (255 : Int32)))), rfl, (by simp only [f_X4_change, if_neg c1, if_neg c2, if_neg c3, if_neg c4]), by rw [ht]; exact hP, va_K.moved hW.alike hK, hD⟩, hS.F ht⟩) hS.2.2 dX4_change_79

def f_X4_callWith (u : PW) (a1 : Int32) : PW := (sPW_P_want u a1)
theorem qX4_callWith_0 : Cond.fieldLink RX4 31 "DiskMachine$Processor" "wanted" "I" ∈ wsX4_callWith := by decide +kernel
theorem iX4_callWith_X4 : ∀ w ∈ wsX40, w ∈ wsX4_callWith := by decide +kernel
set_option maxHeartbeats 4000000 in
set_option maxRecDepth 100000 in
theorem k_X4_callWith (l : Launch) (dC : Nat → ClassId) (dI : Nat → Nat → Nat) (cI : ClassId) (pO mS mA dS dA cO iA oA kO fO aO rA : Nat) (sz : Nat) (u : PW) (a1 : Int32) : Met l yX4_callWith wsX4_callWith ({ frames := 0, cells := 0, slots := 0, locals := 0 }) (va_Pc [.ref pO, .int a1] (wB dC dI [(cI, .int)] sz (wP cI pO mS mA dS dA cO iA oA kO fO aO rA u))) (va_Qv (fun u' : PW => u' = (f_X4_callWith u a1)) (fun u' => wE dC dI [(cI, .int)] (va_A (wP cI pO mS mA dS dA cO iA oA kO fO aO rA u) sz) (wP cI pO mS mA dS dA cO iA oA kO fO aO rA u')) (va_A (wP cI pO mS mA dS dA cO iA oA kO fO aO rA u) sz)) 0 0 (va_A (wP cI pO mS mA dS dA cO iA oA kO fO aO rA u) sz) := by
  refine Met.ofW (cc := cX4_callWith) (maxL := 2) (ret := none) (by decide) rfl ?_
  intro p e s m args below meth c s₁ B hml hv
  obtain ⟨rfl, hsz, hP, hK, hD0⟩ := hv
  have hx := B.exec
  have hb := B.bytes
  have hr := B.returns
  have hts := atoms_spec (ws := wsX4_callWith) B.pre
  have hown : s.vm.findClass RX4 = some m.cls := findClass_of_methodNamed B.named
  have hlocks := B.notSynchronized
  subst hsz
  have hD := hD0.self (sz := s.heap.size)
  generalize hAe : va_A (wP cI pO mS mA dS dA cO iA oA kO fO aO rA u) s.heap.size = A at hD ⊢
  have hA : ∀ q : Nat, s.heap.size ≤ q → A q := fun q h => by rw [← hAe]; exact Or.inr h
  have hS : va_S A s.heap s.heap [] := va_S.rf
  have hP : va_P (dC, dI) vwCl (wP cI pO mS mA dS dA cO iA oA kO fO aO rA u) s.heap := hP
  clear hAe hD0
  have hl := lv_entry ([.ref pO, .int a1]) (n := 2) (Nat.le_of_ble_eq_true rfl)
  rw [lg_entry_eq]
  generalize (lg_sl ([.ref pO, .int a1]) ++ List.replicate (2 - (lg_sl ([.ref pO, .int a1])).length) Slot.unset).toArray = ls at hl ⊢
  have hl : lv_has ls 2 [(0, .ref pO), (1, .int a1)] := hl
  refine jn_H hP hS (fun H locs hP hS => ?_)
  refine lv_aload_n hx hb dX4_callWith_0 rfl (lv_at hl 0 rfl) ?_
  refine lv_iload_n hx hb dX4_callWith_1 rfl (lv_at hl 1 rfl) ?_
  refine va_put (D := (dC, dI)) (ci := 4) (v := .int a1) (ty := .int) (C := RX4) (T := TX4) (N := 13) hx hb hts iX4_callWith_X4 tyX4 tyX4_ok nmX4 hown hK hP hD hS 0 rfl rfl 11 (by decide) (hts _ qX4_callWith_0) (fun _ h9 => h9) rfl (by decide +kernel) rfl rfl (Nat.le_of_ble_eq_true rfl) dX4_callWith_2 (fun H locs hP hD hS => ?_)
  obtain ⟨hP, hD⟩ := pP_P_want hP hD
  exact W.vret hx hb hr (fun t ht hW => ⟨⟨(sPW_P_want u a1), rfl, rfl, by rw [ht]; exact hP, va_K.moved hW.alike hK, hD⟩, hS.F ht⟩) hS.2.2 dX4_callWith_5

def f_X4_isHalted (u : PW) : Bool := (gPW_P_hlt u)
theorem qX4_isHalted_0 : Cond.fieldLink RX4 62 "DiskMachine$Processor" "halted" "Z" ∈ wsX4_isHalted := by decide +kernel
theorem iX4_isHalted_X4 : ∀ w ∈ wsX40, w ∈ wsX4_isHalted := by decide +kernel
set_option maxHeartbeats 4000000 in
set_option maxRecDepth 100000 in
theorem k_X4_isHalted (l : Launch) (dC : Nat → ClassId) (dI : Nat → Nat → Nat) (cI : ClassId) (pO mS mA dS dA cO iA oA kO fO aO rA : Nat) (sz : Nat) (u : PW) : Met l yX4_isHalted wsX4_isHalted ({ frames := 0, cells := 0, slots := 0, locals := 0 }) (va_Pc [.ref pO] (wB dC dI [(cI, .int)] sz (wP cI pO mS mA dS dA cO iA oA kO fO aO rA u))) (va_Qi (fun (r : Int32) (u' : PW) => r = (bI (f_X4_isHalted u)) ∧ u' = u) (fun u' => wE dC dI [(cI, .int)] (va_A (wP cI pO mS mA dS dA cO iA oA kO fO aO rA u) sz) (wP cI pO mS mA dS dA cO iA oA kO fO aO rA u')) (va_A (wP cI pO mS mA dS dA cO iA oA kO fO aO rA u) sz)) 0 0 (va_A (wP cI pO mS mA dS dA cO iA oA kO fO aO rA u) sz) := by
  refine Met.ofW (cc := cX4_isHalted) (maxL := 1) (ret := (some .boolean)) (by decide) rfl ?_
  intro p e s m args below meth c s₁ B hml hv
  obtain ⟨rfl, hsz, hP, hK, hD0⟩ := hv
  have hx := B.exec
  have hb := B.bytes
  have hr := B.returns
  have hts := atoms_spec (ws := wsX4_isHalted) B.pre
  have hown : s.vm.findClass RX4 = some m.cls := findClass_of_methodNamed B.named
  have hlocks := B.notSynchronized
  subst hsz
  have hD := hD0.self (sz := s.heap.size)
  generalize hAe : va_A (wP cI pO mS mA dS dA cO iA oA kO fO aO rA u) s.heap.size = A at hD ⊢
  have hA : ∀ q : Nat, s.heap.size ≤ q → A q := fun q h => by rw [← hAe]; exact Or.inr h
  have hS : va_S A s.heap s.heap [] := va_S.rf
  have hP : va_P (dC, dI) vwCl (wP cI pO mS mA dS dA cO iA oA kO fO aO rA u) s.heap := hP
  clear hAe hD0
  have hl := lv_entry ([.ref pO]) (n := 1) (Nat.le_of_ble_eq_true rfl)
  rw [lg_entry_eq]
  generalize (lg_sl ([.ref pO]) ++ List.replicate (1 - (lg_sl ([.ref pO])).length) Slot.unset).toArray = ls at hl ⊢
  have hl : lv_has ls 1 [(0, .ref pO)] := hl
  refine jn_H hP hS (fun H locs hP hS => ?_)
  refine lv_aload_n hx hb dX4_isHalted_0 rfl (lv_at hl 0 rfl) ?_
  refine va_get (D := (dC, dI)) (ci := 4) (v := .int (bI (gPW_P_hlt u))) (C := RX4) (T := TX4) (N := 13) hx hb hts iX4_isHalted_X4 hown hK hP 0 rfl rfl 8 (by decide) (hts _ qX4_isHalted_0) (fun _ h9 => h9) rfl dX4_isHalted_1 ?_
  exact W.zret (v := (bI (gPW_P_hlt u))) hx hb hr (bI_nar (gPW_P_hlt u)) (fun t ht hW => ⟨⟨(bI (gPW_P_hlt u)), u, rfl, ⟨rfl, rfl⟩, by rw [ht]; exact hP, va_K.moved hW.alike hK, hD⟩, hS.F ht⟩) hS.2.2 dX4_isHalted_4

def f_X4_hasInterruptsOn (u : PW) : Bool := (gPW_P_on u)
theorem qX4_hasInterruptsOn_0 : Cond.fieldLink RX4 66 "DiskMachine$Processor" "interruptsOn" "Z" ∈ wsX4_hasInterruptsOn := by decide +kernel
theorem iX4_hasInterruptsOn_X4 : ∀ w ∈ wsX40, w ∈ wsX4_hasInterruptsOn := by decide +kernel
set_option maxHeartbeats 4000000 in
set_option maxRecDepth 100000 in
theorem k_X4_hasInterruptsOn (l : Launch) (dC : Nat → ClassId) (dI : Nat → Nat → Nat) (cI : ClassId) (pO mS mA dS dA cO iA oA kO fO aO rA : Nat) (sz : Nat) (u : PW) : Met l yX4_hasInterruptsOn wsX4_hasInterruptsOn ({ frames := 0, cells := 0, slots := 0, locals := 0 }) (va_Pc [.ref pO] (wB dC dI [(cI, .int)] sz (wP cI pO mS mA dS dA cO iA oA kO fO aO rA u))) (va_Qi (fun (r : Int32) (u' : PW) => r = (bI (f_X4_hasInterruptsOn u)) ∧ u' = u) (fun u' => wE dC dI [(cI, .int)] (va_A (wP cI pO mS mA dS dA cO iA oA kO fO aO rA u) sz) (wP cI pO mS mA dS dA cO iA oA kO fO aO rA u')) (va_A (wP cI pO mS mA dS dA cO iA oA kO fO aO rA u) sz)) 0 0 (va_A (wP cI pO mS mA dS dA cO iA oA kO fO aO rA u) sz) := by
  refine Met.ofW (cc := cX4_hasInterruptsOn) (maxL := 1) (ret := (some .boolean)) (by decide) rfl ?_
  intro p e s m args below meth c s₁ B hml hv
  obtain ⟨rfl, hsz, hP, hK, hD0⟩ := hv
  have hx := B.exec
  have hb := B.bytes
  have hr := B.returns
  have hts := atoms_spec (ws := wsX4_hasInterruptsOn) B.pre
  have hown : s.vm.findClass RX4 = some m.cls := findClass_of_methodNamed B.named
  have hlocks := B.notSynchronized
  subst hsz
  have hD := hD0.self (sz := s.heap.size)
  generalize hAe : va_A (wP cI pO mS mA dS dA cO iA oA kO fO aO rA u) s.heap.size = A at hD ⊢
  have hA : ∀ q : Nat, s.heap.size ≤ q → A q := fun q h => by rw [← hAe]; exact Or.inr h
  have hS : va_S A s.heap s.heap [] := va_S.rf
  have hP : va_P (dC, dI) vwCl (wP cI pO mS mA dS dA cO iA oA kO fO aO rA u) s.heap := hP
  clear hAe hD0
  have hl := lv_entry ([.ref pO]) (n := 1) (Nat.le_of_ble_eq_true rfl)
  rw [lg_entry_eq]
  generalize (lg_sl ([.ref pO]) ++ List.replicate (1 - (lg_sl ([.ref pO])).length) Slot.unset).toArray = ls at hl ⊢
  have hl : lv_has ls 1 [(0, .ref pO)] := hl
  refine jn_H hP hS (fun H locs hP hS => ?_)
  refine lv_aload_n hx hb dX4_hasInterruptsOn_0 rfl (lv_at hl 0 rfl) ?_
  refine va_get (D := (dC, dI)) (ci := 4) (v := .int (bI (gPW_P_on u))) (C := RX4) (T := TX4) (N := 13) hx hb hts iX4_hasInterruptsOn_X4 hown hK hP 0 rfl rfl 9 (by decide) (hts _ qX4_hasInterruptsOn_0) (fun _ h9 => h9) rfl dX4_hasInterruptsOn_1 ?_
  exact W.zret (v := (bI (gPW_P_on u))) hx hb hr (bI_nar (gPW_P_on u)) (fun t ht hW => ⟨⟨(bI (gPW_P_on u)), u, rfl, ⟨rfl, rfl⟩, by rw [ht]; exact hP, va_K.moved hW.alike hK, hD⟩, hS.F ht⟩) hS.2.2 dX4_hasInterruptsOn_4

def f_X4_wantedInterrupt (u : PW) : Int32 := (gPW_P_want u)
theorem qX4_wantedInterrupt_0 : Cond.fieldLink RX4 31 "DiskMachine$Processor" "wanted" "I" ∈ wsX4_wantedInterrupt := by decide +kernel
theorem iX4_wantedInterrupt_X4 : ∀ w ∈ wsX40, w ∈ wsX4_wantedInterrupt := by decide +kernel
set_option maxHeartbeats 4000000 in
set_option maxRecDepth 100000 in
theorem k_X4_wantedInterrupt (l : Launch) (dC : Nat → ClassId) (dI : Nat → Nat → Nat) (cI : ClassId) (pO mS mA dS dA cO iA oA kO fO aO rA : Nat) (sz : Nat) (u : PW) : Met l yX4_wantedInterrupt wsX4_wantedInterrupt ({ frames := 0, cells := 0, slots := 0, locals := 0 }) (va_Pc [.ref pO] (wB dC dI [(cI, .int)] sz (wP cI pO mS mA dS dA cO iA oA kO fO aO rA u))) (va_Qi (fun (r : Int32) (u' : PW) => r = (f_X4_wantedInterrupt u) ∧ u' = u) (fun u' => wE dC dI [(cI, .int)] (va_A (wP cI pO mS mA dS dA cO iA oA kO fO aO rA u) sz) (wP cI pO mS mA dS dA cO iA oA kO fO aO rA u')) (va_A (wP cI pO mS mA dS dA cO iA oA kO fO aO rA u) sz)) 0 0 (va_A (wP cI pO mS mA dS dA cO iA oA kO fO aO rA u) sz) := by
  refine Met.ofW (cc := cX4_wantedInterrupt) (maxL := 1) (ret := (some .int)) (by decide) rfl ?_
  intro p e s m args below meth c s₁ B hml hv
  obtain ⟨rfl, hsz, hP, hK, hD0⟩ := hv
  have hx := B.exec
  have hb := B.bytes
  have hr := B.returns
  have hts := atoms_spec (ws := wsX4_wantedInterrupt) B.pre
  have hown : s.vm.findClass RX4 = some m.cls := findClass_of_methodNamed B.named
  have hlocks := B.notSynchronized
  subst hsz
  have hD := hD0.self (sz := s.heap.size)
  generalize hAe : va_A (wP cI pO mS mA dS dA cO iA oA kO fO aO rA u) s.heap.size = A at hD ⊢
  have hA : ∀ q : Nat, s.heap.size ≤ q → A q := fun q h => by rw [← hAe]; exact Or.inr h
  have hS : va_S A s.heap s.heap [] := va_S.rf
  have hP : va_P (dC, dI) vwCl (wP cI pO mS mA dS dA cO iA oA kO fO aO rA u) s.heap := hP
  clear hAe hD0
  have hl := lv_entry ([.ref pO]) (n := 1) (Nat.le_of_ble_eq_true rfl)
  rw [lg_entry_eq]
  generalize (lg_sl ([.ref pO]) ++ List.replicate (1 - (lg_sl ([.ref pO])).length) Slot.unset).toArray = ls at hl ⊢
  have hl : lv_has ls 1 [(0, .ref pO)] := hl
  refine jn_H hP hS (fun H locs hP hS => ?_)
  refine lv_aload_n hx hb dX4_wantedInterrupt_0 rfl (lv_at hl 0 rfl) ?_
  refine va_get (D := (dC, dI)) (ci := 4) (v := .int (gPW_P_want u)) (C := RX4) (T := TX4) (N := 13) hx hb hts iX4_wantedInterrupt_X4 hown hK hP 0 rfl rfl 11 (by decide) (hts _ qX4_wantedInterrupt_0) (fun _ h9 => h9) rfl dX4_wantedInterrupt_1 ?_
  exact W.iret (v := (gPW_P_want u)) hx hb hr (fun t ht hW => ⟨⟨(gPW_P_want u), u, rfl, ⟨rfl, rfl⟩, by rw [ht]; exact hP, va_K.moved hW.alike hK, hD⟩, hS.F ht⟩) hS.2.2 dX4_wantedInterrupt_4

def f_X4_cyclesDone (u : PW) : Int64 := (gPW_P_cyc u)
theorem qX4_cyclesDone_0 : Cond.fieldLink RX4 69 "DiskMachine$Processor" "cyclesDone" "J" ∈ wsX4_cyclesDone := by decide +kernel
theorem iX4_cyclesDone_X4 : ∀ w ∈ wsX40, w ∈ wsX4_cyclesDone := by decide +kernel
set_option maxHeartbeats 4000000 in
set_option maxRecDepth 100000 in
theorem k_X4_cyclesDone (l : Launch) (dC : Nat → ClassId) (dI : Nat → Nat → Nat) (cI : ClassId) (pO mS mA dS dA cO iA oA kO fO aO rA : Nat) (sz : Nat) (u : PW) : Met l yX4_cyclesDone wsX4_cyclesDone ({ frames := 0, cells := 0, slots := 0, locals := 0 }) (va_Pc [.ref pO] (wB dC dI [(cI, .int)] sz (wP cI pO mS mA dS dA cO iA oA kO fO aO rA u))) (va_Ql (fun (r : Int64) (u' : PW) => r = (f_X4_cyclesDone u) ∧ u' = u) (fun u' => wE dC dI [(cI, .int)] (va_A (wP cI pO mS mA dS dA cO iA oA kO fO aO rA u) sz) (wP cI pO mS mA dS dA cO iA oA kO fO aO rA u')) (va_A (wP cI pO mS mA dS dA cO iA oA kO fO aO rA u) sz)) 0 0 (va_A (wP cI pO mS mA dS dA cO iA oA kO fO aO rA u) sz) := by
  refine Met.ofW (cc := cX4_cyclesDone) (maxL := 1) (ret := (some .long)) (by decide) rfl ?_
  intro p e s m args below meth c s₁ B hml hv
  obtain ⟨rfl, hsz, hP, hK, hD0⟩ := hv
  have hx := B.exec
  have hb := B.bytes
  have hr := B.returns
  have hts := atoms_spec (ws := wsX4_cyclesDone) B.pre
  have hown : s.vm.findClass RX4 = some m.cls := findClass_of_methodNamed B.named
  have hlocks := B.notSynchronized
  subst hsz
  have hD := hD0.self (sz := s.heap.size)
  generalize hAe : va_A (wP cI pO mS mA dS dA cO iA oA kO fO aO rA u) s.heap.size = A at hD ⊢
  have hA : ∀ q : Nat, s.heap.size ≤ q → A q := fun q h => by rw [← hAe]; exact Or.inr h
  have hS : va_S A s.heap s.heap [] := va_S.rf
  have hP : va_P (dC, dI) vwCl (wP cI pO mS mA dS dA cO iA oA kO fO aO rA u) s.heap := hP
  clear hAe hD0
  have hl := lv_entry ([.ref pO]) (n := 1) (Nat.le_of_ble_eq_true rfl)
  rw [lg_entry_eq]
  generalize (lg_sl ([.ref pO]) ++ List.replicate (1 - (lg_sl ([.ref pO])).length) Slot.unset).toArray = ls at hl ⊢
  have hl : lv_has ls 1 [(0, .ref pO)] := hl
  refine jn_H hP hS (fun H locs hP hS => ?_)
  refine lv_aload_n hx hb dX4_cyclesDone_0 rfl (lv_at hl 0 rfl) ?_
  refine va_get (D := (dC, dI)) (ci := 4) (v := .long (gPW_P_cyc u)) (C := RX4) (T := TX4) (N := 13) hx hb hts iX4_cyclesDone_X4 hown hK hP 0 rfl rfl 12 (by decide) (hts _ qX4_cyclesDone_0) (fun _ h9 => h9) rfl dX4_cyclesDone_1 ?_
  exact W.lret (v := (gPW_P_cyc u)) hx hb hr (fun t ht hW => ⟨⟨(gPW_P_cyc u), u, rfl, ⟨rfl, rfl⟩, by rw [ht]; exact hP, va_K.moved hW.alike hK, hD⟩, hS.F ht⟩) hS.2.2 dX4_cyclesDone_4

def f_X4_pair (u : PW) (a1 : Int32) : Int32 := (if a1 = (3 : Int32) then (gPW_P_sp u) else ((((gPW_P_r u) (((2 : Int32) * a1) : Int32).toNatClampNeg) <<< ((8 : Int32) &&& 31)) ||| ((gPW_P_r u) ((((2 : Int32) * a1) + (1 : Int32)) : Int32).toNatClampNeg)) : Int32)
theorem qX4_pair_0 : Cond.fieldLink RX4 27 "DiskMachine$Processor" "registers" "[I" ∈ wsX4_pair := by decide +kernel
theorem qX4_pair_1 : Cond.fieldLink RX4 54 "DiskMachine$Processor" "sp" "I" ∈ wsX4_pair := by decide +kernel
theorem iX4_pair_X4 : ∀ w ∈ wsX40, w ∈ wsX4_pair := by decide +kernel
set_option maxHeartbeats 4000000 in
set_option maxRecDepth 100000 in
theorem k_X4_pair (l : Launch) (dC : Nat → ClassId) (dI : Nat → Nat → Nat) (cI : ClassId) (pO mS mA dS dA cO iA oA kO fO aO rA : Nat) (sz : Nat) (u : PW) (a1 : Int32) (h1 : vp_in a1 4) : Met l yX4_pair wsX4_pair ({ frames := 0, cells := 0, slots := 0, locals := 0 }) (va_Pc [.ref pO, .int a1] (wB dC dI [(cI, .int)] sz (wP cI pO mS mA dS dA cO iA oA kO fO aO rA u))) (va_Qi (fun (r : Int32) (u' : PW) => r = (f_X4_pair u a1) ∧ u' = u) (fun u' => wE dC dI [(cI, .int)] (va_A (wP cI pO mS mA dS dA cO iA oA kO fO aO rA u) sz) (wP cI pO mS mA dS dA cO iA oA kO fO aO rA u')) (va_A (wP cI pO mS mA dS dA cO iA oA kO fO aO rA u) sz)) 0 0 (va_A (wP cI pO mS mA dS dA cO iA oA kO fO aO rA u) sz) := by
  refine Met.ofW (cc := cX4_pair) (maxL := 2) (ret := (some .int)) (by decide) rfl ?_
  intro p e s m args below meth c s₁ B hml hv
  obtain ⟨rfl, hsz, hP, hK, hD0⟩ := hv
  have hx := B.exec
  have hb := B.bytes
  have hr := B.returns
  have hts := atoms_spec (ws := wsX4_pair) B.pre
  have hown : s.vm.findClass RX4 = some m.cls := findClass_of_methodNamed B.named
  have hlocks := B.notSynchronized
  subst hsz
  have hD := hD0.self (sz := s.heap.size)
  generalize hAe : va_A (wP cI pO mS mA dS dA cO iA oA kO fO aO rA u) s.heap.size = A at hD ⊢
  have hA : ∀ q : Nat, s.heap.size ≤ q → A q := fun q h => by rw [← hAe]; exact Or.inr h
  have hS : va_S A s.heap s.heap [] := va_S.rf
  have hP : va_P (dC, dI) vwCl (wP cI pO mS mA dS dA cO iA oA kO fO aO rA u) s.heap := hP
  clear hAe hD0
  have hl := lv_entry ([.ref pO, .int a1]) (n := 2) (Nat.le_of_ble_eq_true rfl)
  rw [lg_entry_eq]
  generalize (lg_sl ([.ref pO, .int a1]) ++ List.replicate (2 - (lg_sl ([.ref pO, .int a1])).length) Slot.unset).toArray = ls at hl ⊢
  have hl : lv_has ls 2 [(0, .ref pO), (1, .int a1)] := hl
  refine jn_H hP hS (fun H locs hP hS => ?_)
  refine lv_iload_n hx hb dX4_pair_0 rfl (lv_at hl 1 rfl) ?_
  refine lv_iconst (v := 3) hx hb dX4_pair_1 (by decide) ?_
  refine jn_i (D := (dC, dI)) (cl := vwCl) (ws := (wP cI pO mS mA dS dA cO iA oA kO fO aO rA u)) (A := A) (H0 := s.heap) (nL := 2) 34 (if a1 = (3 : Int32) then (gPW_P_sp u) else ((((gPW_P_r u) (((2 : Int32) * a1) : Int32).toNatClampNeg) <<< ((8 : Int32) &&& 31)) ||| ((gPW_P_r u) ((((2 : Int32) * a1) + (1 : Int32)) : Int32).toNatClampNeg)) : Int32) [(0, .ref pO), (1, .int a1)] [] (fun H locs ls hP hS hl => ?_) (fun hJ1 => ?_)
  · skip
    exact W.iret (v := (if a1 = (3 : Int32) then (gPW_P_sp u) else ((((gPW_P_r u) (((2 : Int32) * a1) : Int32).toNatClampNeg) <<< ((8 : Int32) &&& 31)) ||| ((gPW_P_r u) ((((2 : Int32) * a1) + (1 : Int32)) : Int32).toNatClampNeg)) : Int32)) hx hb hr (fun t ht hW => ⟨⟨(if a1 = (3 : Int32) then (gPW_P_sp u) else ((((gPW_P_r u) (((2 : Int32) * a1) : Int32).toNatClampNeg) <<< ((8 : Int32) &&& 31)) ||| ((gPW_P_r u) ((((2 : Int32) * a1) + (1 : Int32)) : Int32).toNatClampNeg)) : Int32), u, rfl, ⟨rfl, rfl⟩, by rw [ht]; exact hP, va_K.moved hW.alike hK, hD⟩, hS.F ht⟩) hS.2.2 dX4_pair_34
  · skip
    refine lv_icmp_ne (tgt := 12) hx hb dX4_pair_2 (by decide) (fun c2 => ?_) (fun c2 => ?_)
    · skip
      refine lv_aload_n hx hb dX4_pair_12 rfl (lv_at hl 0 rfl) ?_
      refine va_get (D := (dC, dI)) (ci := 4) (v := .ref rA) (C := RX4) (T := TX4) (N := 13) hx hb hts iX4_pair_X4 hown hK hP 0 rfl rfl 5 (by decide) (hts _ qX4_pair_0) (fun _ h9 => h9) rfl dX4_pair_13 ?_
      refine lv_iconst (v := 2) hx hb dX4_pair_16 (by decide) ?_
      refine lv_iload_n hx hb dX4_pair_17 rfl (lv_at hl 1 rfl) ?_
      refine lv_imul hx hb dX4_pair_18 ?_
      refine va_iald (f := (gPW_P_r u)) hx hb hK hP 11 0 rfl rfl (ix_2p h1) dX4_pair_19 ?_
      refine lv_bipush (v := 8) hx hb dX4_pair_20 (by decide) ?_
      refine lv_ishl hx hb dX4_pair_22 ?_
      refine lv_aload_n hx hb dX4_pair_23 rfl (lv_at hl 0 rfl) ?_
      refine va_get (D := (dC, dI)) (ci := 4) (v := .ref rA) (C := RX4) (T := TX4) (N := 13) hx hb hts iX4_pair_X4 hown hK hP 0 rfl rfl 5 (by decide) (hts _ qX4_pair_0) (fun _ h9 => h9) rfl dX4_pair_24 ?_
      refine lv_iconst (v := 2) hx hb dX4_pair_27 (by decide) ?_
      refine lv_iload_n hx hb dX4_pair_28 rfl (lv_at hl 1 rfl) ?_
      refine lv_imul hx hb dX4_pair_29 ?_
      refine lv_iconst (v := 1) hx hb dX4_pair_30 (by decide) ?_
      refine lv_iadd hx hb dX4_pair_31 ?_
      refine va_iald (f := (gPW_P_r u)) hx hb hK hP 11 0 rfl rfl (ix_2p1 h1) dX4_pair_32 ?_
      refine lv_ior hx hb dX4_pair_33 ?_
      exact hJ1 ((((gPW_P_r u) (((2 : Int32) * a1) : Int32).toNatClampNeg) <<< ((8 : Int32) &&& 31)) ||| ((gPW_P_r u) ((((2 : Int32) * a1) + (1 : Int32)) : Int32).toNatClampNeg)) _ _ _ (by simp only [if_neg c2]) hP hS (lv_sub hl [0, 1] rfl)
    · skip
      refine lv_aload_n hx hb dX4_pair_5 rfl (lv_at hl 0 rfl) ?_
      refine va_get (D := (dC, dI)) (ci := 4) (v := .int (gPW_P_sp u)) (C := RX4) (T := TX4) (N := 13) hx hb hts iX4_pair_X4 hown hK hP 0 rfl rfl 7 (by decide) (hts _ qX4_pair_1) (fun _ h9 => h9) rfl dX4_pair_6 ?_
      refine lv_goto (tgt := 34) hx hb dX4_pair_9 (by decide) ?_
      exact hJ1 (gPW_P_sp u) _ _ _ (by simp only [if_pos c2]) hP hS (lv_sub hl [0, 1] rfl)

def f_X4_setPair (u : PW) (a1 : Int32) (a2 : Int32) : PW := 
  if a1 = (3 : Int32) then (sPW_P_sp u (a2 &&& (65535 : Int32)))
  else (sPW_P_r (sPW_P_r u (upd (gPW_P_r u) (((2 : Int32) * a1) : Int32).toNatClampNeg ((a2 >>> ((8 : Int32) &&& 31)) &&& (255 : Int32)))) (upd (gPW_P_r (sPW_P_r u (upd (gPW_P_r u) (((2 : Int32) * a1) : Int32).toNatClampNeg ((a2 >>> ((8 : Int32) &&& 31)) &&& (255 : Int32))))) ((((2 : Int32) * a1) + (1 : Int32)) : Int32).toNatClampNeg (a2 &&& (255 : Int32))))
theorem qX4_setPair_0 : Cond.fieldLink RX4 27 "DiskMachine$Processor" "registers" "[I" ∈ wsX4_setPair := by decide +kernel
theorem qX4_setPair_1 : Cond.constant RX4 61 (65535) ∈ wsX4_setPair := by decide +kernel
theorem qX4_setPair_2 : Cond.fieldLink RX4 54 "DiskMachine$Processor" "sp" "I" ∈ wsX4_setPair := by decide +kernel
theorem iX4_setPair_X4 : ∀ w ∈ wsX40, w ∈ wsX4_setPair := by decide +kernel
set_option maxHeartbeats 4000000 in
set_option maxRecDepth 100000 in
theorem k_X4_setPair (l : Launch) (dC : Nat → ClassId) (dI : Nat → Nat → Nat) (cI : ClassId) (pO mS mA dS dA cO iA oA kO fO aO rA : Nat) (sz : Nat) (u : PW) (a1 : Int32) (a2 : Int32) (h1 : vp_in a1 4) : Met l yX4_setPair wsX4_setPair ({ frames := 0, cells := 0, slots := 0, locals := 0 }) (va_Pc [.ref pO, .int a1, .int a2] (wB dC dI [(cI, .int)] sz (wP cI pO mS mA dS dA cO iA oA kO fO aO rA u))) (va_Qv (fun u' : PW => u' = (f_X4_setPair u a1 a2)) (fun u' => wE dC dI [(cI, .int)] (va_A (wP cI pO mS mA dS dA cO iA oA kO fO aO rA u) sz) (wP cI pO mS mA dS dA cO iA oA kO fO aO rA u')) (va_A (wP cI pO mS mA dS dA cO iA oA kO fO aO rA u) sz)) 0 0 (va_A (wP cI pO mS mA dS dA cO iA oA kO fO aO rA u) sz) := by
  refine Met.ofW (cc := cX4_setPair) (maxL := 3) (ret := none) (by decide) rfl ?_
  intro p e s m args below meth c s₁ B hml hv
  obtain ⟨rfl, hsz, hP, hK, hD0⟩ := hv
  have hx := B.exec
  have hb := B.bytes
  have hr := B.returns
  have hts := atoms_spec (ws := wsX4_setPair) B.pre
  have hown : s.vm.findClass RX4 = some m.cls := findClass_of_methodNamed B.named
  have hlocks := B.notSynchronized
  subst hsz
  have hD := hD0.self (sz := s.heap.size)
  generalize hAe : va_A (wP cI pO mS mA dS dA cO iA oA kO fO aO rA u) s.heap.size = A at hD ⊢
  have hA : ∀ q : Nat, s.heap.size ≤ q → A q := fun q h => by rw [← hAe]; exact Or.inr h
  have hS : va_S A s.heap s.heap [] := va_S.rf
  have hP : va_P (dC, dI) vwCl (wP cI pO mS mA dS dA cO iA oA kO fO aO rA u) s.heap := hP
  clear hAe hD0
  have hl := lv_entry ([.ref pO, .int a1, .int a2]) (n := 3) (Nat.le_of_ble_eq_true rfl)
  rw [lg_entry_eq]
  generalize (lg_sl ([.ref pO, .int a1, .int a2]) ++ List.replicate (3 - (lg_sl ([.ref pO, .int a1, .int a2])).length) Slot.unset).toArray = ls at hl ⊢
  have hl : lv_has ls 3 [(0, .ref pO), (1, .int a1), (2, .int a2)] := hl
  refine jn_H hP hS (fun H locs hP hS => ?_)
  refine lv_iload_n hx hb dX4_setPair_0 rfl (lv_at hl 1 rfl) ?_
  refine lv_iconst (v := 3) hx hb dX4_setPair_1 (by decide) ?_
  refine lv_icmp_ne (tgt := 16) hx hb dX4_setPair_2 (by decide) (fun c1 => ?_) (fun c1 => ?_)
  · skip
    refine lv_aload_n hx hb dX4_setPair_16 rfl (lv_at hl 0 rfl) ?_
    refine va_get (D := (dC, dI)) (ci := 4) (v := .ref rA) (C := RX4) (T := TX4) (N := 13) hx hb hts iX4_setPair_X4 hown hK hP 0 rfl rfl 5 (by decide) (hts _ qX4_setPair_0) (fun _ h9 => h9) rfl dX4_setPair_17 ?_
    refine lv_iconst (v := 2) hx hb dX4_setPair_20 (by decide) ?_
    refine lv_iload_n hx hb dX4_setPair_21 rfl (lv_at hl 1 rfl) ?_
    refine lv_imul hx hb dX4_setPair_22 ?_
    refine lv_iload_n hx hb dX4_setPair_23 rfl (lv_at hl 2 rfl) ?_
    refine lv_bipush (v := 8) hx hb dX4_setPair_24 (by decide) ?_
    refine lv_ishr hx hb dX4_setPair_26 ?_
    refine lv_sipush (v := 255) hx hb dX4_setPair_27 (by decide) ?_
    refine lv_iand hx hb dX4_setPair_30 ?_
    refine va_iast (f := (gPW_P_r u)) hx hb hK hP hD hS 11 0 rfl rfl (ix_2p h1) dX4_setPair_31 (fun H locs hP hD hS => ?_)
    obtain ⟨hP, hD⟩ := aP_rA hP hD
    refine lv_aload_n hx hb dX4_setPair_32 rfl (lv_at hl 0 rfl) ?_
    refine va_get (D := (dC, dI)) (ci := 4) (v := .ref rA) (C := RX4) (T := TX4) (N := 13) hx hb hts iX4_setPair_X4 hown hK hP 0 rfl rfl 5 (by decide) (hts _ qX4_setPair_0) (fun _ h9 => h9) rfl dX4_setPair_33 ?_
    refine lv_iconst (v := 2) hx hb dX4_setPair_36 (by decide) ?_
    refine lv_iload_n hx hb dX4_setPair_37 rfl (lv_at hl 1 rfl) ?_
    refine lv_imul hx hb dX4_setPair_38 ?_
    refine lv_iconst (v := 1) hx hb dX4_setPair_39 (by decide) ?_
    refine lv_iadd hx hb dX4_setPair_40 ?_
    refine lv_iload_n hx hb dX4_setPair_41 rfl (lv_at hl 2 rfl) ?_
    refine lv_sipush (v := 255) hx hb dX4_setPair_42 (by decide) ?_
    refine lv_iand hx hb dX4_setPair_45 ?_
    refine va_iast (f := (gPW_P_r (sPW_P_r u (upd (gPW_P_r u) (((2 : Int32) * a1) : Int32).toNatClampNeg ((a2 >>> ((8 : Int32) &&& 31)) &&& (255 : Int32)))))) hx hb hK hP hD hS 11 0 rfl rfl (ix_2p1 h1) dX4_setPair_46 (fun H locs hP hD hS => ?_)
    obtain ⟨hP, hD⟩ := aP_rA hP hD
    exact W.vret hx hb hr (fun t ht hW => ⟨⟨(sPW_P_r (sPW_P_r u (upd (gPW_P_r u) (((2 : Int32) * a1) : Int32).toNatClampNeg ((a2 >>> ((8 : Int32) &&& 31)) &&& (255 : Int32)))) (upd (gPW_P_r (sPW_P_r u (upd (gPW_P_r u) (((2 : Int32) * a1) : Int32).toNatClampNeg ((a2 >>> ((8 : Int32) &&& 31)) &&& (255 : Int32))))) ((((2 : Int32) * a1) + (1 : Int32)) : Int32).toNatClampNeg (a2 &&& (255 : Int32)))), rfl, (by simp only [f_X4_setPair, if_neg c1]), by rw [ht]; exact hP, va_K.moved hW.alike hK, hD⟩, hS.F ht⟩) hS.2.2 dX4_setPair_47
  · skip
    refine lv_aload_n hx hb dX4_setPair_5 rfl (lv_at hl 0 rfl) ?_
    refine lv_iload_n hx hb dX4_setPair_6 rfl (lv_at hl 2 rfl) ?_
    refine lv_ldc (v := 65535) hx hb hown (hts _ qX4_setPair_1) dX4_setPair_7 ?_
    refine lv_iand hx hb dX4_setPair_9 ?_
    refine va_put (D := (dC, dI)) (ci := 4) (v := .int (a2 &&& (65535 : Int32))) (ty := .int) (C := RX4) (T := TX4) (N := 13) hx hb hts iX4_setPair_X4 tyX4 tyX4_ok nmX4 hown hK hP hD hS 0 rfl rfl 7 (by decide) (hts _ qX4_setPair_2) (fun _ h9 => h9) rfl (by decide +kernel) rfl rfl (Nat.le_of_ble_eq_true rfl) dX4_setPair_10 (fun H locs hP hD hS => ?_)
    obtain ⟨hP, hD⟩ := pP_P_sp hP hD
    refine lv_goto (tgt := 47) hx hb dX4_setPair_13 (by decide) ?_
    exact W.vret hx hb hr (fun t ht hW => ⟨⟨(sPW_P_sp u (a2 &&& (65535 : Int32))), rfl, (by simp only [f_X4_setPair, if_pos c1]), by rw [ht]; exact hP, va_K.moved hW.alike hK, hD⟩, hS.F ht⟩) hS.2.2 dX4_setPair_47

def f_X4_value (u : PW) (a1 : Int32) : Int32 := (if a1 = (6 : Int32) then (f_X5_byteAt (gPW_m u) (f_X4_pair u 2)) else ((gPW_P_r u) (a1 : Int32).toNatClampNeg) : Int32)
theorem qX4_value_0 : Cond.fieldLink RX4 27 "DiskMachine$Processor" "registers" "[I" ∈ wsX4_value := by decide +kernel
theorem qX4_value_1 : Cond.fieldLink RX4 35 "DiskMachine$Processor" "memory" "LDiskMachine$Store;" ∈ wsX4_value := by decide +kernel
theorem iX4_value_X4 : ∀ w ∈ wsX40, w ∈ wsX4_value := by decide +kernel
set_option maxHeartbeats 4000000 in
set_option maxRecDepth 100000 in
theorem k_X4_value (l : Launch) (dC : Nat → ClassId) (dI : Nat → Nat → Nat) (cI : ClassId) (pO mS mA dS dA cO iA oA kO fO aO rA : Nat) (sz : Nat) (u : PW) (a1 : Int32) (h1 : vp_in a1 8) : Met l yX4_value wsX4_value ({ frames := 1, cells := 0, slots := 0, locals := 21 }) (va_Pc [.ref pO, .int a1] (wB dC dI [(cI, .int)] sz (wP cI pO mS mA dS dA cO iA oA kO fO aO rA u))) (va_Qi (fun (r : Int32) (u' : PW) => r = (f_X4_value u a1) ∧ u' = u) (fun u' => wE dC dI [(cI, .int)] (va_A (wP cI pO mS mA dS dA cO iA oA kO fO aO rA u) sz) (wP cI pO mS mA dS dA cO iA oA kO fO aO rA u')) (va_A (wP cI pO mS mA dS dA cO iA oA kO fO aO rA u) sz)) 0 0 (va_A (wP cI pO mS mA dS dA cO iA oA kO fO aO rA u) sz) := by
  refine Met.ofW (cc := cX4_value) (maxL := 2) (ret := (some .int)) (by decide) rfl ?_
  intro p e s m args below meth c s₁ B hml hv
  obtain ⟨rfl, hsz, hP, hK, hD0⟩ := hv
  have hx := B.exec
  have hb := B.bytes
  have hr := B.returns
  have hts := atoms_spec (ws := wsX4_value) B.pre
  have hown : s.vm.findClass RX4 = some m.cls := findClass_of_methodNamed B.named
  have hlocks := B.notSynchronized
  subst hsz
  have hD := hD0.self (sz := s.heap.size)
  generalize hAe : va_A (wP cI pO mS mA dS dA cO iA oA kO fO aO rA u) s.heap.size = A at hD ⊢
  have hA : ∀ q : Nat, s.heap.size ≤ q → A q := fun q h => by rw [← hAe]; exact Or.inr h
  have hS : va_S A s.heap s.heap [] := va_S.rf
  have hP : va_P (dC, dI) vwCl (wP cI pO mS mA dS dA cO iA oA kO fO aO rA u) s.heap := hP
  clear hAe hD0
  have hl := lv_entry ([.ref pO, .int a1]) (n := 2) (Nat.le_of_ble_eq_true rfl)
  rw [lg_entry_eq]
  generalize (lg_sl ([.ref pO, .int a1]) ++ List.replicate (2 - (lg_sl ([.ref pO, .int a1])).length) Slot.unset).toArray = ls at hl ⊢
  have hl : lv_has ls 2 [(0, .ref pO), (1, .int a1)] := hl
  refine jn_H hP hS (fun H locs hP hS => ?_)
  refine lv_iload_n hx hb dX4_value_0 rfl (lv_at hl 1 rfl) ?_
  refine lv_bipush (v := 6) hx hb dX4_value_1 (by decide) ?_
  refine jn_i (D := (dC, dI)) (cl := vwCl) (ws := (wP cI pO mS mA dS dA cO iA oA kO fO aO rA u)) (A := A) (H0 := s.heap) (nL := 2) 27 (if a1 = (6 : Int32) then (f_X5_byteAt (gPW_m u) (f_X4_pair u 2)) else ((gPW_P_r u) (a1 : Int32).toNatClampNeg) : Int32) [(0, .ref pO), (1, .int a1)] [] (fun H locs ls hP hS hl => ?_) (fun hJ1 => ?_)
  · skip
    exact W.iret (v := (if a1 = (6 : Int32) then (f_X5_byteAt (gPW_m u) (f_X4_pair u 2)) else ((gPW_P_r u) (a1 : Int32).toNatClampNeg) : Int32)) hx hb hr (fun t ht hW => ⟨⟨(if a1 = (6 : Int32) then (f_X5_byteAt (gPW_m u) (f_X4_pair u 2)) else ((gPW_P_r u) (a1 : Int32).toNatClampNeg) : Int32), u, rfl, ⟨rfl, rfl⟩, by rw [ht]; exact hP, va_K.moved hW.alike hK, hD⟩, hS.F ht⟩) hS.2.2 dX4_value_27
  · skip
    refine lv_icmp_ne (tgt := 21) hx hb dX4_value_3 (by decide) (fun c2 => ?_) (fun c2 => ?_)
    · skip
      refine lv_aload_n hx hb dX4_value_21 rfl (lv_at hl 0 rfl) ?_
      refine va_get (D := (dC, dI)) (ci := 4) (v := .ref rA) (C := RX4) (T := TX4) (N := 13) hx hb hts iX4_value_X4 hown hK hP 0 rfl rfl 5 (by decide) (hts _ qX4_value_0) (fun _ h9 => h9) rfl dX4_value_22 ?_
      refine lv_iload_n hx hb dX4_value_25 rfl (lv_at hl 1 rfl) ?_
      refine va_iald (f := (gPW_P_r u)) hx hb hK hP 11 0 rfl rfl h1 dX4_value_26 ?_
      exact hJ1 ((gPW_P_r u) (a1 : Int32).toNatClampNeg) _ _ _ (by simp only [if_neg c2]) hP hS (lv_sub hl [0, 1] rfl)
    · skip
      refine lv_aload_n hx hb dX4_value_6 rfl (lv_at hl 0 rfl) ?_
      refine va_get (D := (dC, dI)) (ci := 4) (v := .ref mS) (C := RX4) (T := TX4) (N := 13) hx hb hts iX4_value_X4 hown hK hP 0 rfl rfl 0 (by decide) (hts _ qX4_value_1) (fun _ h9 => h9) rfl dX4_value_7 ?_
      refine lv_aload_n hx hb dX4_value_10 rfl (lv_at hl 0 rfl) ?_
      refine lv_iconst (v := 2) hx hb dX4_value_11 (by decide) ?_
      obtain ⟨hPc, hDc, hFc⟩ := xP_P hP hD hS hA
      have hKc := hK.sub (tys' := [(cI, .int)]) [0] rfl
      refine va_calli (va_runV (As := [.int 2]) (rest := [.ref mS]) ⟨hx, hb, hml, hown, hts⟩ (k_X4_pair l dC dI cI pO mS mA dS dA cO iA oA kO fO aO rA H.size u 2 (ix_lit (by decide))) (cwV 1 hts gX4_value_X4_pair rfl rfl rfl (by decide +kernel) ⟨Nat.le_of_ble_eq_true rfl, Nat.le_of_ble_eq_true rfl⟩) ⟨fun a U g mk q => by obtain ⟨q0, q1, qP, qK, qD⟩ := q; exact ⟨q0, q1, qP, va_K.moved (u := U) (U := U.calling g mk a) (Vm.Alike.refl U.vm) qK, qD⟩, va_recv hKc hPc (ci := 4) (q0 := 0) rfl rfl, fun U hU hW => ⟨rfl, by rw [hU], by rw [hU]; exact hPc, va_K.moved hW.alike hKc, hDc.weaken (fun _ _ _ _ => trivial)⟩⟩ rfl rfl hl.1 rfl (lv_room (Nat.le_of_ble_eq_true rfl)) dX4_value_12 ⟨Nat.le_of_ble_eq_true rfl, Nat.le_of_ble_eq_true rfl⟩) hS (fun q _ h => hFc q h) hFc (fun r9 u9 t H1 locs ht hvm hw hB hz1 hk1 hS => ?_)
      obtain ⟨hw1, hw2⟩ := hw
      have hw2 := hw2.symm
      subst hw1 hw2
      obtain ⟨hP1, hK1, hD1⟩ := hB
      rw [ht] at hP1
      obtain ⟨hP, hD⟩ := jP_P0 hP hD hk1 hFc hP1 hD1
      clear hPc hDc hKc hFc hz1 hk1 hP1 hK1 hD1 ht hvm
      generalize H1 = H at hP hS ⊢
      obtain ⟨hPc, hDc, hFc⟩ := xP_S_mS hP hD hS hA
      have hKc := hK.sub (tys' := [(cI, .int)]) [0] rfl
      refine va_calli (va_runV (As := [.int (f_X4_pair u 2)]) (rest := []) ⟨hx, hb, hml, hown, hts⟩ (k_X5_byteAt l dC dI cI mS mA H.size (gPW_m u) (f_X4_pair u 2)) (cwV 1 hts gX4_value_X5_byteAt rfl rfl rfl (by decide +kernel) ⟨Nat.le_of_ble_eq_true rfl, Nat.le_of_ble_eq_true rfl⟩) ⟨fun a U g mk q => by obtain ⟨q0, q1, qP, qK, qD⟩ := q; exact ⟨q0, q1, qP, va_K.moved (u := U) (U := U.calling g mk a) (Vm.Alike.refl U.vm) qK, qD⟩, va_recv hKc hPc (ci := 5) (q0 := 0) rfl rfl, fun U hU hW => ⟨rfl, by rw [hU], by rw [hU]; exact hPc, va_K.moved hW.alike hKc, hDc.weaken (fun _ _ _ _ => trivial)⟩⟩ rfl rfl hl.1 rfl (lv_room (Nat.le_of_ble_eq_true rfl)) dX4_value_15 ⟨Nat.le_of_ble_eq_true rfl, Nat.le_of_ble_eq_true rfl⟩) hS (fun q _ h => hFc q h) hFc (fun r9 u9 t H1 locs ht hvm hw hB hz1 hk1 hS => ?_)
      obtain ⟨hw1, hw2⟩ := hw
      have hw2 := hw2.symm
      subst hw1 hw2
      obtain ⟨hP1, hK1, hD1⟩ := hB
      rw [ht] at hP1
      obtain ⟨hP, hD⟩ := jP_S_mS0 hP hD hk1 hFc hP1 hD1
      clear hPc hDc hKc hFc hz1 hk1 hP1 hK1 hD1 ht hvm
      generalize H1 = H at hP hS ⊢
      refine lv_goto (tgt := 27) hx hb dX4_value_18 (by decide) ?_
      exact hJ1 (f_X5_byteAt (gPW_m u) (f_X4_pair u 2)) _ _ _ (by simp only [if_pos c2]) hP hS (lv_sub hl [0, 1] rfl)

def f_X4_setValue (u : PW) (a1 : Int32) (a2 : Int32) : PW := 
  if a1 = (6 : Int32) then (sPW_m u (f_X5_setByte (gPW_m u) (f_X4_pair u 2) a2))
  else (sPW_P_r u (upd (gPW_P_r u) (a1 : Int32).toNatClampNeg a2))
theorem qX4_setValue_0 : Cond.fieldLink RX4 27 "DiskMachine$Processor" "registers" "[I" ∈ wsX4_setValue := by decide +kernel
theorem qX4_setValue_1 : Cond.fieldLink RX4 35 "DiskMachine$Processor" "memory" "LDiskMachine$Store;" ∈ wsX4_setValue := by decide +kernel
theorem iX4_setValue_X4 : ∀ w ∈ wsX40, w ∈ wsX4_setValue := by decide +kernel
set_option maxHeartbeats 4000000 in
set_option maxRecDepth 100000 in
theorem k_X4_setValue (l : Launch) (dC : Nat → ClassId) (dI : Nat → Nat → Nat) (cI : ClassId) (pO mS mA dS dA cO iA oA kO fO aO rA : Nat) (sz : Nat) (u : PW) (a1 : Int32) (a2 : Int32) (h1 : vp_in a1 8) : Met l yX4_setValue wsX4_setValue ({ frames := 1, cells := 0, slots := 0, locals := 22 }) (va_Pc [.ref pO, .int a1, .int a2] (wB dC dI [(cI, .int)] sz (wP cI pO mS mA dS dA cO iA oA kO fO aO rA u))) (va_Qv (fun u' : PW => u' = (f_X4_setValue u a1 a2)) (fun u' => wE dC dI [(cI, .int)] (va_A (wP cI pO mS mA dS dA cO iA oA kO fO aO rA u) sz) (wP cI pO mS mA dS dA cO iA oA kO fO aO rA u')) (va_A (wP cI pO mS mA dS dA cO iA oA kO fO aO rA u) sz)) 0 0 (va_A (wP cI pO mS mA dS dA cO iA oA kO fO aO rA u) sz) := by
  refine Met.ofW (cc := cX4_setValue) (maxL := 3) (ret := none) (by decide) rfl ?_
  intro p e s m args below meth c s₁ B hml hv
  obtain ⟨rfl, hsz, hP, hK, hD0⟩ := hv
  have hx := B.exec
  have hb := B.bytes
  have hr := B.returns
  have hts := atoms_spec (ws := wsX4_setValue) B.pre
  have hown : s.vm.findClass RX4 = some m.cls := findClass_of_methodNamed B.named
  have hlocks := B.notSynchronized
  subst hsz
  have hD := hD0.self (sz := s.heap.size)
  generalize hAe : va_A (wP cI pO mS mA dS dA cO iA oA kO fO aO rA u) s.heap.size = A at hD ⊢
  have hA : ∀ q : Nat, s.heap.size ≤ q → A q := fun q h => by rw [← hAe]; exact Or.inr h
  have hS : va_S A s.heap s.heap [] := va_S.rf
  have hP : va_P (dC, dI) vwCl (wP cI pO mS mA dS dA cO iA oA kO fO aO rA u) s.heap := hP
  clear hAe hD0
  have hl := lv_entry ([.ref pO, .int a1, .int a2]) (n := 3) (Nat.le_of_ble_eq_true rfl)
  rw [lg_entry_eq]
  generalize (lg_sl ([.ref pO, .int a1, .int a2]) ++ List.replicate (3 - (lg_sl ([.ref pO, .int a1, .int a2])).length) Slot.unset).toArray = ls at hl ⊢
  have hl : lv_has ls 3 [(0, .ref pO), (1, .int a1), (2, .int a2)] := hl
  refine jn_H hP hS (fun H locs hP hS => ?_)
  refine lv_iload_n hx hb dX4_setValue_0 rfl (lv_at hl 1 rfl) ?_
  refine lv_bipush (v := 6) hx hb dX4_setValue_1 (by decide) ?_
  refine lv_icmp_ne (tgt := 22) hx hb dX4_setValue_3 (by decide) (fun c1 => ?_) (fun c1 => ?_)
  · skip
    refine lv_aload_n hx hb dX4_setValue_22 rfl (lv_at hl 0 rfl) ?_
    refine va_get (D := (dC, dI)) (ci := 4) (v := .ref rA) (C := RX4) (T := TX4) (N := 13) hx hb hts iX4_setValue_X4 hown hK hP 0 rfl rfl 5 (by decide) (hts _ qX4_setValue_0) (fun _ h9 => h9) rfl dX4_setValue_23 ?_
    refine lv_iload_n hx hb dX4_setValue_26 rfl (lv_at hl 1 rfl) ?_
    refine lv_iload_n hx hb dX4_setValue_27 rfl (lv_at hl 2 rfl) ?_
    refine va_iast (f := (gPW_P_r u)) hx hb hK hP hD hS 11 0 rfl rfl h1 dX4_setValue_28 (fun H locs hP hD hS => ?_)
    obtain ⟨hP, hD⟩ := aP_rA hP hD
    exact W.vret hx hb hr (fun t ht hW => ⟨⟨(sPW_P_r u (upd (gPW_P_r u) (a1 : Int32).toNatClampNeg a2)), rfl, (by simp only [f_X4_setValue, if_neg c1]), by rw [ht]; exact hP, va_K.moved hW.alike hK, hD⟩, hS.F ht⟩) hS.2.2 dX4_setValue_29
  · skip
    refine lv_aload_n hx hb dX4_setValue_6 rfl (lv_at hl 0 rfl) ?_
    refine va_get (D := (dC, dI)) (ci := 4) (v := .ref mS) (C := RX4) (T := TX4) (N := 13) hx hb hts iX4_setValue_X4 hown hK hP 0 rfl rfl 0 (by decide) (hts _ qX4_setValue_1) (fun _ h9 => h9) rfl dX4_setValue_7 ?_
    refine lv_aload_n hx hb dX4_setValue_10 rfl (lv_at hl 0 rfl) ?_
    refine lv_iconst (v := 2) hx hb dX4_setValue_11 (by decide) ?_
    obtain ⟨hPc, hDc, hFc⟩ := xP_P hP hD hS hA
    have hKc := hK.sub (tys' := [(cI, .int)]) [0] rfl
    refine va_calli (va_runV (As := [.int 2]) (rest := [.ref mS]) ⟨hx, hb, hml, hown, hts⟩ (k_X4_pair l dC dI cI pO mS mA dS dA cO iA oA kO fO aO rA H.size u 2 (ix_lit (by decide))) (cwV 1 hts gX4_setValue_X4_pair rfl rfl rfl (by decide +kernel) ⟨Nat.le_of_ble_eq_true rfl, Nat.le_of_ble_eq_true rfl⟩) ⟨fun a U g mk q => by obtain ⟨q0, q1, qP, qK, qD⟩ := q; exact ⟨q0, q1, qP, va_K.moved (u := U) (U := U.calling g mk a) (Vm.Alike.refl U.vm) qK, qD⟩, va_recv hKc hPc (ci := 4) (q0 := 0) rfl rfl, fun U hU hW => ⟨rfl, by rw [hU], by rw [hU]; exact hPc, va_K.moved hW.alike hKc, hDc.weaken (fun _ _ _ _ => trivial)⟩⟩ rfl rfl hl.1 rfl (lv_room (Nat.le_of_ble_eq_true rfl)) dX4_setValue_12 ⟨Nat.le_of_ble_eq_true rfl, Nat.le_of_ble_eq_true rfl⟩) hS (fun q _ h => hFc q h) hFc (fun r9 u9 t H1 locs ht hvm hw hB hz1 hk1 hS => ?_)
    obtain ⟨hw1, hw2⟩ := hw
    have hw2 := hw2.symm
    subst hw1 hw2
    obtain ⟨hP1, hK1, hD1⟩ := hB
    rw [ht] at hP1
    obtain ⟨hP, hD⟩ := jP_P0 hP hD hk1 hFc hP1 hD1
    clear hPc hDc hKc hFc hz1 hk1 hP1 hK1 hD1 ht hvm
    generalize H1 = H at hP hS ⊢
    refine lv_iload_n hx hb dX4_setValue_15 rfl (lv_at hl 2 rfl) ?_
    obtain ⟨hPc, hDc, hFc⟩ := xP_S_mS hP hD hS hA
    have hKc := hK.sub (tys' := [(cI, .int)]) [0] rfl
    refine va_callv (va_runV (As := [.int (f_X4_pair u 2), .int a2]) (rest := []) ⟨hx, hb, hml, hown, hts⟩ (k_X5_setByte l dC dI cI mS mA H.size (gPW_m u) (f_X4_pair u 2) a2) (cwV 2 hts gX4_setValue_X5_setByte rfl rfl rfl (by decide +kernel) ⟨Nat.le_of_ble_eq_true rfl, Nat.le_of_ble_eq_true rfl⟩) ⟨fun a U g mk q => by obtain ⟨q0, q1, qP, qK, qD⟩ := q; exact ⟨q0, q1, qP, va_K.moved (u := U) (U := U.calling g mk a) (Vm.Alike.refl U.vm) qK, qD⟩, va_recv hKc hPc (ci := 5) (q0 := 0) rfl rfl, fun U hU hW => ⟨rfl, by rw [hU], by rw [hU]; exact hPc, va_K.moved hW.alike hKc, hDc.weaken (fun _ _ _ _ => trivial)⟩⟩ rfl rfl hl.1 rfl (lv_room (Nat.le_of_ble_eq_true rfl)) dX4_setValue_16 ⟨Nat.le_of_ble_eq_true rfl, Nat.le_of_ble_eq_true rfl⟩) hS (fun q _ h => hFc q h) hFc (fun u9 t H1 locs ht hvm hw hB hz1 hk1 hS => ?_)
    subst hw
    obtain ⟨hP1, hK1, hD1⟩ := hB
    rw [ht] at hP1
    obtain ⟨hP, hD⟩ := jP_S_mS hP hD hk1 hFc hP1 hD1
    clear hPc hDc hKc hFc hz1 hk1 hP1 hK1 hD1 ht hvm
    generalize H1 = H at hP hS ⊢
    refine lv_goto (tgt := 29) hx hb dX4_setValue_19 (by decide) ?_
    exact W.vret hx hb hr (fun t ht hW => ⟨⟨(sPW_m u (f_X5_setByte (gPW_m u) (f_X4_pair u 2) a2)), rfl, (by simp only [f_X4_setValue, if_pos c1]), by rw [ht]; exact hP, va_K.moved hW.alike hK, hD⟩, hS.F ht⟩) hS.2.2 dX4_setValue_29

def f_X4_push (u : PW) (a1 : Int32) : PW := (sPW_m (sPW_P_sp u (((gPW_P_sp u) - (2 : Int32)) &&& (65535 : Int32))) (f_X5_setWord (gPW_m (sPW_P_sp u (((gPW_P_sp u) - (2 : Int32)) &&& (65535 : Int32)))) (gPW_P_sp (sPW_P_sp u (((gPW_P_sp u) - (2 : Int32)) &&& (65535 : Int32)))) a1))
theorem qX4_push_0 : Cond.fieldLink RX4 54 "DiskMachine$Processor" "sp" "I" ∈ wsX4_push := by decide +kernel
theorem qX4_push_1 : Cond.constant RX4 61 (65535) ∈ wsX4_push := by decide +kernel
theorem qX4_push_2 : Cond.fieldLink RX4 35 "DiskMachine$Processor" "memory" "LDiskMachine$Store;" ∈ wsX4_push := by decide +kernel
theorem iX4_push_X4 : ∀ w ∈ wsX40, w ∈ wsX4_push := by decide +kernel
set_option maxHeartbeats 4000000 in
set_option maxRecDepth 100000 in
theorem k_X4_push (l : Launch) (dC : Nat → ClassId) (dI : Nat → Nat → Nat) (cI : ClassId) (pO mS mA dS dA cO iA oA kO fO aO rA : Nat) (sz : Nat) (u : PW) (a1 : Int32) : Met l yX4_push wsX4_push ({ frames := 1, cells := 0, slots := 0, locals := 22 }) (va_Pc [.ref pO, .int a1] (wB dC dI [(cI, .int)] sz (wP cI pO mS mA dS dA cO iA oA kO fO aO rA u))) (va_Qv (fun u' : PW => u' = (f_X4_push u a1)) (fun u' => wE dC dI [(cI, .int)] (va_A (wP cI pO mS mA dS dA cO iA oA kO fO aO rA u) sz) (wP cI pO mS mA dS dA cO iA oA kO fO aO rA u')) (va_A (wP cI pO mS mA dS dA cO iA oA kO fO aO rA u) sz)) 0 0 (va_A (wP cI pO mS mA dS dA cO iA oA kO fO aO rA u) sz) := by
  refine Met.ofW (cc := cX4_push) (maxL := 2) (ret := none) (by decide) rfl ?_
  intro p e s m args below meth c s₁ B hml hv
  obtain ⟨rfl, hsz, hP, hK, hD0⟩ := hv
  have hx := B.exec
  have hb := B.bytes
  have hr := B.returns
  have hts := atoms_spec (ws := wsX4_push) B.pre
  have hown : s.vm.findClass RX4 = some m.cls := findClass_of_methodNamed B.named
  have hlocks := B.notSynchronized
  subst hsz
  have hD := hD0.self (sz := s.heap.size)
  generalize hAe : va_A (wP cI pO mS mA dS dA cO iA oA kO fO aO rA u) s.heap.size = A at hD ⊢
  have hA : ∀ q : Nat, s.heap.size ≤ q → A q := fun q h => by rw [← hAe]; exact Or.inr h
  have hS : va_S A s.heap s.heap [] := va_S.rf
  have hP : va_P (dC, dI) vwCl (wP cI pO mS mA dS dA cO iA oA kO fO aO rA u) s.heap := hP
  clear hAe hD0
  have hl := lv_entry ([.ref pO, .int a1]) (n := 2) (Nat.le_of_ble_eq_true rfl)
  rw [lg_entry_eq]
  generalize (lg_sl ([.ref pO, .int a1]) ++ List.replicate (2 - (lg_sl ([.ref pO, .int a1])).length) Slot.unset).toArray = ls at hl ⊢
  have hl : lv_has ls 2 [(0, .ref pO), (1, .int a1)] := hl
  refine jn_H hP hS (fun H locs hP hS => ?_)
  refine lv_aload_n hx hb dX4_push_0 rfl (lv_at hl 0 rfl) ?_
  refine lv_aload_n hx hb dX4_push_1 rfl (lv_at hl 0 rfl) ?_
  refine va_get (D := (dC, dI)) (ci := 4) (v := .int (gPW_P_sp u)) (C := RX4) (T := TX4) (N := 13) hx hb hts iX4_push_X4 hown hK hP 0 rfl rfl 7 (by decide) (hts _ qX4_push_0) (fun _ h9 => h9) rfl dX4_push_2 ?_
  refine lv_iconst (v := 2) hx hb dX4_push_5 (by decide) ?_
  refine lv_isub hx hb dX4_push_6 ?_
  refine lv_ldc (v := 65535) hx hb hown (hts _ qX4_push_1) dX4_push_7 ?_
  refine lv_iand hx hb dX4_push_9 ?_
  refine va_put (D := (dC, dI)) (ci := 4) (v := .int (((gPW_P_sp u) - (2 : Int32)) &&& (65535 : Int32))) (ty := .int) (C := RX4) (T := TX4) (N := 13) hx hb hts iX4_push_X4 tyX4 tyX4_ok nmX4 hown hK hP hD hS 0 rfl rfl 7 (by decide) (hts _ qX4_push_0) (fun _ h9 => h9) rfl (by decide +kernel) rfl rfl (Nat.le_of_ble_eq_true rfl) dX4_push_10 (fun H locs hP hD hS => ?_)
  obtain ⟨hP, hD⟩ := pP_P_sp hP hD
  refine lv_aload_n hx hb dX4_push_13 rfl (lv_at hl 0 rfl) ?_
  refine va_get (D := (dC, dI)) (ci := 4) (v := .ref mS) (C := RX4) (T := TX4) (N := 13) hx hb hts iX4_push_X4 hown hK hP 0 rfl rfl 0 (by decide) (hts _ qX4_push_2) (fun _ h9 => h9) rfl dX4_push_14 ?_
  refine lv_aload_n hx hb dX4_push_17 rfl (lv_at hl 0 rfl) ?_
  refine va_get (D := (dC, dI)) (ci := 4) (v := .int (gPW_P_sp (sPW_P_sp u (((gPW_P_sp u) - (2 : Int32)) &&& (65535 : Int32))))) (C := RX4) (T := TX4) (N := 13) hx hb hts iX4_push_X4 hown hK hP 0 rfl rfl 7 (by decide) (hts _ qX4_push_0) (fun _ h9 => h9) rfl dX4_push_18 ?_
  refine lv_iload_n hx hb dX4_push_21 rfl (lv_at hl 1 rfl) ?_
  obtain ⟨hPc, hDc, hFc⟩ := xP_S_mS hP hD hS hA
  have hKc := hK.sub (tys' := [(cI, .int)]) [0] rfl
  refine va_callv (va_runV (As := [.int (gPW_P_sp (sPW_P_sp u (((gPW_P_sp u) - (2 : Int32)) &&& (65535 : Int32)))), .int a1]) (rest := []) ⟨hx, hb, hml, hown, hts⟩ (k_X5_setWord l dC dI cI mS mA H.size (gPW_m (sPW_P_sp u (((gPW_P_sp u) - (2 : Int32)) &&& (65535 : Int32)))) (gPW_P_sp (sPW_P_sp u (((gPW_P_sp u) - (2 : Int32)) &&& (65535 : Int32)))) a1) (cwV 2 hts gX4_push_X5_setWord rfl rfl rfl (by decide +kernel) ⟨Nat.le_of_ble_eq_true rfl, Nat.le_of_ble_eq_true rfl⟩) ⟨fun a U g mk q => by obtain ⟨q0, q1, qP, qK, qD⟩ := q; exact ⟨q0, q1, qP, va_K.moved (u := U) (U := U.calling g mk a) (Vm.Alike.refl U.vm) qK, qD⟩, va_recv hKc hPc (ci := 5) (q0 := 0) rfl rfl, fun U hU hW => ⟨rfl, by rw [hU], by rw [hU]; exact hPc, va_K.moved hW.alike hKc, hDc.weaken (fun _ _ _ _ => trivial)⟩⟩ rfl rfl hl.1 rfl (lv_room (Nat.le_of_ble_eq_true rfl)) dX4_push_22 ⟨Nat.le_of_ble_eq_true rfl, Nat.le_of_ble_eq_true rfl⟩) hS (fun q _ h => hFc q h) hFc (fun u9 t H1 locs ht hvm hw hB hz1 hk1 hS => ?_)
  subst hw
  obtain ⟨hP1, hK1, hD1⟩ := hB
  rw [ht] at hP1
  obtain ⟨hP, hD⟩ := jP_S_mS hP hD hk1 hFc hP1 hD1
  clear hPc hDc hKc hFc hz1 hk1 hP1 hK1 hD1 ht hvm
  generalize H1 = H at hP hS ⊢
  exact W.vret hx hb hr (fun t ht hW => ⟨⟨(sPW_m (sPW_P_sp u (((gPW_P_sp u) - (2 : Int32)) &&& (65535 : Int32))) (f_X5_setWord (gPW_m (sPW_P_sp u (((gPW_P_sp u) - (2 : Int32)) &&& (65535 : Int32)))) (gPW_P_sp (sPW_P_sp u (((gPW_P_sp u) - (2 : Int32)) &&& (65535 : Int32)))) a1)), rfl, rfl, by rw [ht]; exact hP, va_K.moved hW.alike hK, hD⟩, hS.F ht⟩) hS.2.2 dX4_push_25

def f_X4_pop (u : PW) : Int32 × PW := ((f_X5_wordAt (gPW_m u) (gPW_P_sp u)), (sPW_P_sp u (((gPW_P_sp u) + (2 : Int32)) &&& (65535 : Int32))))
theorem qX4_pop_0 : Cond.fieldLink RX4 35 "DiskMachine$Processor" "memory" "LDiskMachine$Store;" ∈ wsX4_pop := by decide +kernel
theorem qX4_pop_1 : Cond.fieldLink RX4 54 "DiskMachine$Processor" "sp" "I" ∈ wsX4_pop := by decide +kernel
theorem qX4_pop_2 : Cond.constant RX4 61 (65535) ∈ wsX4_pop := by decide +kernel
theorem iX4_pop_X4 : ∀ w ∈ wsX40, w ∈ wsX4_pop := by decide +kernel
set_option maxHeartbeats 4000000 in
set_option maxRecDepth 100000 in
theorem k_X4_pop (l : Launch) (dC : Nat → ClassId) (dI : Nat → Nat → Nat) (cI : ClassId) (pO mS mA dS dA cO iA oA kO fO aO rA : Nat) (sz : Nat) (u : PW) : Met l yX4_pop wsX4_pop ({ frames := 1, cells := 0, slots := 0, locals := 21 }) (va_Pc [.ref pO] (wB dC dI [(cI, .int)] sz (wP cI pO mS mA dS dA cO iA oA kO fO aO rA u))) (va_Qi (fun (r : Int32) (u' : PW) => r = (f_X4_pop u).1 ∧ u' = (f_X4_pop u).2) (fun u' => wE dC dI [(cI, .int)] (va_A (wP cI pO mS mA dS dA cO iA oA kO fO aO rA u) sz) (wP cI pO mS mA dS dA cO iA oA kO fO aO rA u')) (va_A (wP cI pO mS mA dS dA cO iA oA kO fO aO rA u) sz)) 0 0 (va_A (wP cI pO mS mA dS dA cO iA oA kO fO aO rA u) sz) := by
  refine Met.ofW (cc := cX4_pop) (maxL := 2) (ret := (some .int)) (by decide) rfl ?_
  intro p e s m args below meth c s₁ B hml hv
  obtain ⟨rfl, hsz, hP, hK, hD0⟩ := hv
  have hx := B.exec
  have hb := B.bytes
  have hr := B.returns
  have hts := atoms_spec (ws := wsX4_pop) B.pre
  have hown : s.vm.findClass RX4 = some m.cls := findClass_of_methodNamed B.named
  have hlocks := B.notSynchronized
  subst hsz
  have hD := hD0.self (sz := s.heap.size)
  generalize hAe : va_A (wP cI pO mS mA dS dA cO iA oA kO fO aO rA u) s.heap.size = A at hD ⊢
  have hA : ∀ q : Nat, s.heap.size ≤ q → A q := fun q h => by rw [← hAe]; exact Or.inr h
  have hS : va_S A s.heap s.heap [] := va_S.rf
  have hP : va_P (dC, dI) vwCl (wP cI pO mS mA dS dA cO iA oA kO fO aO rA u) s.heap := hP
  clear hAe hD0
  have hl := lv_entry ([.ref pO]) (n := 2) (Nat.le_of_ble_eq_true rfl)
  rw [lg_entry_eq]
  generalize (lg_sl ([.ref pO]) ++ List.replicate (2 - (lg_sl ([.ref pO])).length) Slot.unset).toArray = ls at hl ⊢
  have hl : lv_has ls 2 [(0, .ref pO)] := hl
  refine jn_H hP hS (fun H locs hP hS => ?_)
  refine lv_aload_n hx hb dX4_pop_0 rfl (lv_at hl 0 rfl) ?_
  refine va_get (D := (dC, dI)) (ci := 4) (v := .ref mS) (C := RX4) (T := TX4) (N := 13) hx hb hts iX4_pop_X4 hown hK hP 0 rfl rfl 0 (by decide) (hts _ qX4_pop_0) (fun _ h9 => h9) rfl dX4_pop_1 ?_
  refine lv_aload_n hx hb dX4_pop_4 rfl (lv_at hl 0 rfl) ?_
  refine va_get (D := (dC, dI)) (ci := 4) (v := .int (gPW_P_sp u)) (C := RX4) (T := TX4) (N := 13) hx hb hts iX4_pop_X4 hown hK hP 0 rfl rfl 7 (by decide) (hts _ qX4_pop_1) (fun _ h9 => h9) rfl dX4_pop_5 ?_
  obtain ⟨hPc, hDc, hFc⟩ := xP_S_mS hP hD hS hA
  have hKc := hK.sub (tys' := [(cI, .int)]) [0] rfl
  refine va_calli (va_runV (As := [.int (gPW_P_sp u)]) (rest := []) ⟨hx, hb, hml, hown, hts⟩ (k_X5_wordAt l dC dI cI mS mA H.size (gPW_m u) (gPW_P_sp u)) (cwV 1 hts gX4_pop_X5_wordAt rfl rfl rfl (by decide +kernel) ⟨Nat.le_of_ble_eq_true rfl, Nat.le_of_ble_eq_true rfl⟩) ⟨fun a U g mk q => by obtain ⟨q0, q1, qP, qK, qD⟩ := q; exact ⟨q0, q1, qP, va_K.moved (u := U) (U := U.calling g mk a) (Vm.Alike.refl U.vm) qK, qD⟩, va_recv hKc hPc (ci := 5) (q0 := 0) rfl rfl, fun U hU hW => ⟨rfl, by rw [hU], by rw [hU]; exact hPc, va_K.moved hW.alike hKc, hDc.weaken (fun _ _ _ _ => trivial)⟩⟩ rfl rfl hl.1 rfl (lv_room (Nat.le_of_ble_eq_true rfl)) dX4_pop_8 ⟨Nat.le_of_ble_eq_true rfl, Nat.le_of_ble_eq_true rfl⟩) hS (fun q _ h => hFc q h) hFc (fun r9 u9 t H1 locs ht hvm hw hB hz1 hk1 hS => ?_)
  obtain ⟨hw1, hw2⟩ := hw
  have hw2 := hw2.symm
  subst hw1 hw2
  obtain ⟨hP1, hK1, hD1⟩ := hB
  rw [ht] at hP1
  obtain ⟨hP, hD⟩ := jP_S_mS0 hP hD hk1 hFc hP1 hD1
  clear hPc hDc hKc hFc hz1 hk1 hP1 hK1 hD1 ht hvm
  generalize H1 = H at hP hS ⊢
  refine lv_istore_n (lv' := [(1, .int (f_X5_wordAt (gPW_m u) (gPW_P_sp u))), (0, .ref pO)]) hx hb dX4_pop_11 rfl hl (by decide) rfl (fun ls hl => ?_)
  refine lv_aload_n hx hb dX4_pop_12 rfl (lv_at hl 1 rfl) ?_
  refine lv_aload_n hx hb dX4_pop_13 rfl (lv_at hl 1 rfl) ?_
  refine va_get (D := (dC, dI)) (ci := 4) (v := .int (gPW_P_sp u)) (C := RX4) (T := TX4) (N := 13) hx hb hts iX4_pop_X4 hown hK hP 0 rfl rfl 7 (by decide) (hts _ qX4_pop_1) (fun _ h9 => h9) rfl dX4_pop_14 ?_
  refine lv_iconst (v := 2) hx hb dX4_pop_17 (by decide) ?_
  refine lv_iadd hx hb dX4_pop_18 ?_
  refine lv_ldc (v := 65535) hx hb hown (hts _ qX4_pop_2) dX4_pop_19 ?_
  refine lv_iand hx hb dX4_pop_21 ?_
  refine va_put (D := (dC, dI)) (ci := 4) (v := .int (((gPW_P_sp u) + (2 : Int32)) &&& (65535 : Int32))) (ty := .int) (C := RX4) (T := TX4) (N := 13) hx hb hts iX4_pop_X4 tyX4 tyX4_ok nmX4 hown hK hP hD hS 0 rfl rfl 7 (by decide) (hts _ qX4_pop_1) (fun _ h9 => h9) rfl (by decide +kernel) rfl rfl (Nat.le_of_ble_eq_true rfl) dX4_pop_22 (fun H locs hP hD hS => ?_)
  obtain ⟨hP, hD⟩ := pP_P_sp hP hD
  refine lv_iload_n hx hb dX4_pop_25 rfl (lv_at hl 0 rfl) ?_
  exact W.iret (v := (f_X5_wordAt (gPW_m u) (gPW_P_sp u))) hx hb hr (fun t ht hW => ⟨⟨(f_X5_wordAt (gPW_m u) (gPW_P_sp u)), (sPW_P_sp u (((gPW_P_sp u) + (2 : Int32)) &&& (65535 : Int32))), rfl, ⟨rfl, rfl⟩, by rw [ht]; exact hP, va_K.moved hW.alike hK, hD⟩, hS.F ht⟩) hS.2.2 dX4_pop_26

def f_X4_nextByte (u : PW) : Int32 × PW := ((f_X5_byteAt (gPW_m u) (gPW_P_pc u)), (sPW_P_pc u (((gPW_P_pc u) + (1 : Int32)) &&& (65535 : Int32))))
theorem qX4_nextByte_0 : Cond.fieldLink RX4 35 "DiskMachine$Processor" "memory" "LDiskMachine$Store;" ∈ wsX4_nextByte := by decide +kernel
theorem qX4_nextByte_1 : Cond.fieldLink RX4 51 "DiskMachine$Processor" "pc" "I" ∈ wsX4_nextByte := by decide +kernel
theorem qX4_nextByte_2 : Cond.constant RX4 61 (65535) ∈ wsX4_nextByte := by decide +kernel
theorem iX4_nextByte_X4 : ∀ w ∈ wsX40, w ∈ wsX4_nextByte := by decide +kernel
set_option maxHeartbeats 4000000 in
set_option maxRecDepth 100000 in
theorem k_X4_nextByte (l : Launch) (dC : Nat → ClassId) (dI : Nat → Nat → Nat) (cI : ClassId) (pO mS mA dS dA cO iA oA kO fO aO rA : Nat) (sz : Nat) (u : PW) : Met l yX4_nextByte wsX4_nextByte ({ frames := 1, cells := 0, slots := 0, locals := 21 }) (va_Pc [.ref pO] (wB dC dI [(cI, .int)] sz (wP cI pO mS mA dS dA cO iA oA kO fO aO rA u))) (va_Qi (fun (r : Int32) (u' : PW) => r = (f_X4_nextByte u).1 ∧ u' = (f_X4_nextByte u).2) (fun u' => wE dC dI [(cI, .int)] (va_A (wP cI pO mS mA dS dA cO iA oA kO fO aO rA u) sz) (wP cI pO mS mA dS dA cO iA oA kO fO aO rA u')) (va_A (wP cI pO mS mA dS dA cO iA oA kO fO aO rA u) sz)) 0 0 (va_A (wP cI pO mS mA dS dA cO iA oA kO fO aO rA u) sz) := by
  refine Met.ofW (cc := cX4_nextByte) (maxL := 2) (ret := (some .int)) (by decide) rfl ?_
  intro p e s m args below meth c s₁ B hml hv
  obtain ⟨rfl, hsz, hP, hK, hD0⟩ := hv
  have hx := B.exec
  have hb := B.bytes
  have hr := B.returns
  have hts := atoms_spec (ws := wsX4_nextByte) B.pre
  have hown : s.vm.findClass RX4 = some m.cls := findClass_of_methodNamed B.named
  have hlocks := B.notSynchronized
  subst hsz
  have hD := hD0.self (sz := s.heap.size)
  generalize hAe : va_A (wP cI pO mS mA dS dA cO iA oA kO fO aO rA u) s.heap.size = A at hD ⊢
  have hA : ∀ q : Nat, s.heap.size ≤ q → A q := fun q h => by rw [← hAe]; exact Or.inr h
  have hS : va_S A s.heap s.heap [] := va_S.rf
  have hP : va_P (dC, dI) vwCl (wP cI pO mS mA dS dA cO iA oA kO fO aO rA u) s.heap := hP
  clear hAe hD0
  have hl := lv_entry ([.ref pO]) (n := 2) (Nat.le_of_ble_eq_true rfl)
  rw [lg_entry_eq]
  generalize (lg_sl ([.ref pO]) ++ List.replicate (2 - (lg_sl ([.ref pO])).length) Slot.unset).toArray = ls at hl ⊢
  have hl : lv_has ls 2 [(0, .ref pO)] := hl
  refine jn_H hP hS (fun H locs hP hS => ?_)
  refine lv_aload_n hx hb dX4_nextByte_0 rfl (lv_at hl 0 rfl) ?_
  refine va_get (D := (dC, dI)) (ci := 4) (v := .ref mS) (C := RX4) (T := TX4) (N := 13) hx hb hts iX4_nextByte_X4 hown hK hP 0 rfl rfl 0 (by decide) (hts _ qX4_nextByte_0) (fun _ h9 => h9) rfl dX4_nextByte_1 ?_
  refine lv_aload_n hx hb dX4_nextByte_4 rfl (lv_at hl 0 rfl) ?_
  refine va_get (D := (dC, dI)) (ci := 4) (v := .int (gPW_P_pc u)) (C := RX4) (T := TX4) (N := 13) hx hb hts iX4_nextByte_X4 hown hK hP 0 rfl rfl 6 (by decide) (hts _ qX4_nextByte_1) (fun _ h9 => h9) rfl dX4_nextByte_5 ?_
  obtain ⟨hPc, hDc, hFc⟩ := xP_S_mS hP hD hS hA
  have hKc := hK.sub (tys' := [(cI, .int)]) [0] rfl
  refine va_calli (va_runV (As := [.int (gPW_P_pc u)]) (rest := []) ⟨hx, hb, hml, hown, hts⟩ (k_X5_byteAt l dC dI cI mS mA H.size (gPW_m u) (gPW_P_pc u)) (cwV 1 hts gX4_nextByte_X5_byteAt rfl rfl rfl (by decide +kernel) ⟨Nat.le_of_ble_eq_true rfl, Nat.le_of_ble_eq_true rfl⟩) ⟨fun a U g mk q => by obtain ⟨q0, q1, qP, qK, qD⟩ := q; exact ⟨q0, q1, qP, va_K.moved (u := U) (U := U.calling g mk a) (Vm.Alike.refl U.vm) qK, qD⟩, va_recv hKc hPc (ci := 5) (q0 := 0) rfl rfl, fun U hU hW => ⟨rfl, by rw [hU], by rw [hU]; exact hPc, va_K.moved hW.alike hKc, hDc.weaken (fun _ _ _ _ => trivial)⟩⟩ rfl rfl hl.1 rfl (lv_room (Nat.le_of_ble_eq_true rfl)) dX4_nextByte_8 ⟨Nat.le_of_ble_eq_true rfl, Nat.le_of_ble_eq_true rfl⟩) hS (fun q _ h => hFc q h) hFc (fun r9 u9 t H1 locs ht hvm hw hB hz1 hk1 hS => ?_)
  obtain ⟨hw1, hw2⟩ := hw
  have hw2 := hw2.symm
  subst hw1 hw2
  obtain ⟨hP1, hK1, hD1⟩ := hB
  rw [ht] at hP1
  obtain ⟨hP, hD⟩ := jP_S_mS0 hP hD hk1 hFc hP1 hD1
  clear hPc hDc hKc hFc hz1 hk1 hP1 hK1 hD1 ht hvm
  generalize H1 = H at hP hS ⊢
  refine lv_istore_n (lv' := [(1, .int (f_X5_byteAt (gPW_m u) (gPW_P_pc u))), (0, .ref pO)]) hx hb dX4_nextByte_11 rfl hl (by decide) rfl (fun ls hl => ?_)
  refine lv_aload_n hx hb dX4_nextByte_12 rfl (lv_at hl 1 rfl) ?_
  refine lv_aload_n hx hb dX4_nextByte_13 rfl (lv_at hl 1 rfl) ?_
  refine va_get (D := (dC, dI)) (ci := 4) (v := .int (gPW_P_pc u)) (C := RX4) (T := TX4) (N := 13) hx hb hts iX4_nextByte_X4 hown hK hP 0 rfl rfl 6 (by decide) (hts _ qX4_nextByte_1) (fun _ h9 => h9) rfl dX4_nextByte_14 ?_
  refine lv_iconst (v := 1) hx hb dX4_nextByte_17 (by decide) ?_
  refine lv_iadd hx hb dX4_nextByte_18 ?_
  refine lv_ldc (v := 65535) hx hb hown (hts _ qX4_nextByte_2) dX4_nextByte_19 ?_
  refine lv_iand hx hb dX4_nextByte_21 ?_
  refine va_put (D := (dC, dI)) (ci := 4) (v := .int (((gPW_P_pc u) + (1 : Int32)) &&& (65535 : Int32))) (ty := .int) (C := RX4) (T := TX4) (N := 13) hx hb hts iX4_nextByte_X4 tyX4 tyX4_ok nmX4 hown hK hP hD hS 0 rfl rfl 6 (by decide) (hts _ qX4_nextByte_1) (fun _ h9 => h9) rfl (by decide +kernel) rfl rfl (Nat.le_of_ble_eq_true rfl) dX4_nextByte_22 (fun H locs hP hD hS => ?_)
  obtain ⟨hP, hD⟩ := pP_P_pc hP hD
  refine lv_iload_n hx hb dX4_nextByte_25 rfl (lv_at hl 0 rfl) ?_
  exact W.iret (v := (f_X5_byteAt (gPW_m u) (gPW_P_pc u))) hx hb hr (fun t ht hW => ⟨⟨(f_X5_byteAt (gPW_m u) (gPW_P_pc u)), (sPW_P_pc u (((gPW_P_pc u) + (1 : Int32)) &&& (65535 : Int32))), rfl, ⟨rfl, rfl⟩, by rw [ht]; exact hP, va_K.moved hW.alike hK, hD⟩, hS.F ht⟩) hS.2.2 dX4_nextByte_26

def f_X4_nextWord (u : PW) : Int32 × PW := ((f_X5_wordAt (gPW_m u) (gPW_P_pc u)), (sPW_P_pc u (((gPW_P_pc u) + (2 : Int32)) &&& (65535 : Int32))))
theorem qX4_nextWord_0 : Cond.fieldLink RX4 35 "DiskMachine$Processor" "memory" "LDiskMachine$Store;" ∈ wsX4_nextWord := by decide +kernel
theorem qX4_nextWord_1 : Cond.fieldLink RX4 51 "DiskMachine$Processor" "pc" "I" ∈ wsX4_nextWord := by decide +kernel
theorem qX4_nextWord_2 : Cond.constant RX4 61 (65535) ∈ wsX4_nextWord := by decide +kernel
theorem iX4_nextWord_X4 : ∀ w ∈ wsX40, w ∈ wsX4_nextWord := by decide +kernel
set_option maxHeartbeats 4000000 in
set_option maxRecDepth 100000 in
theorem k_X4_nextWord (l : Launch) (dC : Nat → ClassId) (dI : Nat → Nat → Nat) (cI : ClassId) (pO mS mA dS dA cO iA oA kO fO aO rA : Nat) (sz : Nat) (u : PW) : Met l yX4_nextWord wsX4_nextWord ({ frames := 1, cells := 0, slots := 0, locals := 21 }) (va_Pc [.ref pO] (wB dC dI [(cI, .int)] sz (wP cI pO mS mA dS dA cO iA oA kO fO aO rA u))) (va_Qi (fun (r : Int32) (u' : PW) => r = (f_X4_nextWord u).1 ∧ u' = (f_X4_nextWord u).2) (fun u' => wE dC dI [(cI, .int)] (va_A (wP cI pO mS mA dS dA cO iA oA kO fO aO rA u) sz) (wP cI pO mS mA dS dA cO iA oA kO fO aO rA u')) (va_A (wP cI pO mS mA dS dA cO iA oA kO fO aO rA u) sz)) 0 0 (va_A (wP cI pO mS mA dS dA cO iA oA kO fO aO rA u) sz) := by
  refine Met.ofW (cc := cX4_nextWord) (maxL := 2) (ret := (some .int)) (by decide) rfl ?_
  intro p e s m args below meth c s₁ B hml hv
  obtain ⟨rfl, hsz, hP, hK, hD0⟩ := hv
  have hx := B.exec
  have hb := B.bytes
  have hr := B.returns
  have hts := atoms_spec (ws := wsX4_nextWord) B.pre
  have hown : s.vm.findClass RX4 = some m.cls := findClass_of_methodNamed B.named
  have hlocks := B.notSynchronized
  subst hsz
  have hD := hD0.self (sz := s.heap.size)
  generalize hAe : va_A (wP cI pO mS mA dS dA cO iA oA kO fO aO rA u) s.heap.size = A at hD ⊢
  have hA : ∀ q : Nat, s.heap.size ≤ q → A q := fun q h => by rw [← hAe]; exact Or.inr h
  have hS : va_S A s.heap s.heap [] := va_S.rf
  have hP : va_P (dC, dI) vwCl (wP cI pO mS mA dS dA cO iA oA kO fO aO rA u) s.heap := hP
  clear hAe hD0
  have hl := lv_entry ([.ref pO]) (n := 2) (Nat.le_of_ble_eq_true rfl)
  rw [lg_entry_eq]
  generalize (lg_sl ([.ref pO]) ++ List.replicate (2 - (lg_sl ([.ref pO])).length) Slot.unset).toArray = ls at hl ⊢
  have hl : lv_has ls 2 [(0, .ref pO)] := hl
  refine jn_H hP hS (fun H locs hP hS => ?_)
  refine lv_aload_n hx hb dX4_nextWord_0 rfl (lv_at hl 0 rfl) ?_
  refine va_get (D := (dC, dI)) (ci := 4) (v := .ref mS) (C := RX4) (T := TX4) (N := 13) hx hb hts iX4_nextWord_X4 hown hK hP 0 rfl rfl 0 (by decide) (hts _ qX4_nextWord_0) (fun _ h9 => h9) rfl dX4_nextWord_1 ?_
  refine lv_aload_n hx hb dX4_nextWord_4 rfl (lv_at hl 0 rfl) ?_
  refine va_get (D := (dC, dI)) (ci := 4) (v := .int (gPW_P_pc u)) (C := RX4) (T := TX4) (N := 13) hx hb hts iX4_nextWord_X4 hown hK hP 0 rfl rfl 6 (by decide) (hts _ qX4_nextWord_1) (fun _ h9 => h9) rfl dX4_nextWord_5 ?_
  obtain ⟨hPc, hDc, hFc⟩ := xP_S_mS hP hD hS hA
  have hKc := hK.sub (tys' := [(cI, .int)]) [0] rfl
  refine va_calli (va_runV (As := [.int (gPW_P_pc u)]) (rest := []) ⟨hx, hb, hml, hown, hts⟩ (k_X5_wordAt l dC dI cI mS mA H.size (gPW_m u) (gPW_P_pc u)) (cwV 1 hts gX4_nextWord_X5_wordAt rfl rfl rfl (by decide +kernel) ⟨Nat.le_of_ble_eq_true rfl, Nat.le_of_ble_eq_true rfl⟩) ⟨fun a U g mk q => by obtain ⟨q0, q1, qP, qK, qD⟩ := q; exact ⟨q0, q1, qP, va_K.moved (u := U) (U := U.calling g mk a) (Vm.Alike.refl U.vm) qK, qD⟩, va_recv hKc hPc (ci := 5) (q0 := 0) rfl rfl, fun U hU hW => ⟨rfl, by rw [hU], by rw [hU]; exact hPc, va_K.moved hW.alike hKc, hDc.weaken (fun _ _ _ _ => trivial)⟩⟩ rfl rfl hl.1 rfl (lv_room (Nat.le_of_ble_eq_true rfl)) dX4_nextWord_8 ⟨Nat.le_of_ble_eq_true rfl, Nat.le_of_ble_eq_true rfl⟩) hS (fun q _ h => hFc q h) hFc (fun r9 u9 t H1 locs ht hvm hw hB hz1 hk1 hS => ?_)
  obtain ⟨hw1, hw2⟩ := hw
  have hw2 := hw2.symm
  subst hw1 hw2
  obtain ⟨hP1, hK1, hD1⟩ := hB
  rw [ht] at hP1
  obtain ⟨hP, hD⟩ := jP_S_mS0 hP hD hk1 hFc hP1 hD1
  clear hPc hDc hKc hFc hz1 hk1 hP1 hK1 hD1 ht hvm
  generalize H1 = H at hP hS ⊢
  refine lv_istore_n (lv' := [(1, .int (f_X5_wordAt (gPW_m u) (gPW_P_pc u))), (0, .ref pO)]) hx hb dX4_nextWord_11 rfl hl (by decide) rfl (fun ls hl => ?_)
  refine lv_aload_n hx hb dX4_nextWord_12 rfl (lv_at hl 1 rfl) ?_
  refine lv_aload_n hx hb dX4_nextWord_13 rfl (lv_at hl 1 rfl) ?_
  refine va_get (D := (dC, dI)) (ci := 4) (v := .int (gPW_P_pc u)) (C := RX4) (T := TX4) (N := 13) hx hb hts iX4_nextWord_X4 hown hK hP 0 rfl rfl 6 (by decide) (hts _ qX4_nextWord_1) (fun _ h9 => h9) rfl dX4_nextWord_14 ?_
  refine lv_iconst (v := 2) hx hb dX4_nextWord_17 (by decide) ?_
  refine lv_iadd hx hb dX4_nextWord_18 ?_
  refine lv_ldc (v := 65535) hx hb hown (hts _ qX4_nextWord_2) dX4_nextWord_19 ?_
  refine lv_iand hx hb dX4_nextWord_21 ?_
  refine va_put (D := (dC, dI)) (ci := 4) (v := .int (((gPW_P_pc u) + (2 : Int32)) &&& (65535 : Int32))) (ty := .int) (C := RX4) (T := TX4) (N := 13) hx hb hts iX4_nextWord_X4 tyX4 tyX4_ok nmX4 hown hK hP hD hS 0 rfl rfl 6 (by decide) (hts _ qX4_nextWord_1) (fun _ h9 => h9) rfl (by decide +kernel) rfl rfl (Nat.le_of_ble_eq_true rfl) dX4_nextWord_22 (fun H locs hP hD hS => ?_)
  obtain ⟨hP, hD⟩ := pP_P_pc hP hD
  refine lv_iload_n hx hb dX4_nextWord_25 rfl (lv_at hl 0 rfl) ?_
  exact W.iret (v := (f_X5_wordAt (gPW_m u) (gPW_P_pc u))) hx hb hr (fun t ht hW => ⟨⟨(f_X5_wordAt (gPW_m u) (gPW_P_pc u)), (sPW_P_pc u (((gPW_P_pc u) + (2 : Int32)) &&& (65535 : Int32))), rfl, ⟨rfl, rfl⟩, by rw [ht]; exact hP, va_K.moved hW.alike hK, hD⟩, hS.F ht⟩) hS.2.2 dX4_nextWord_26

def f_X4_answerInterrupt (u : PW) : Int32 × PW := (11, (sPW_P_pc (f_X4_push (sPW_P_hlt (sPW_P_on (sPW_P_want u (-1)) false) false) (gPW_P_pc (sPW_P_hlt (sPW_P_on (sPW_P_want u (-1)) false) false))) ((8 : Int32) * (gPW_P_want u))))
theorem qX4_answerInterrupt_0 : Cond.fieldLink RX4 31 "DiskMachine$Processor" "wanted" "I" ∈ wsX4_answerInterrupt := by decide +kernel
theorem qX4_answerInterrupt_1 : Cond.fieldLink RX4 66 "DiskMachine$Processor" "interruptsOn" "Z" ∈ wsX4_answerInterrupt := by decide +kernel
theorem qX4_answerInterrupt_2 : Cond.fieldLink RX4 62 "DiskMachine$Processor" "halted" "Z" ∈ wsX4_answerInterrupt := by decide +kernel
theorem qX4_answerInterrupt_3 : Cond.fieldLink RX4 51 "DiskMachine$Processor" "pc" "I" ∈ wsX4_answerInterrupt := by decide +kernel
theorem iX4_answerInterrupt_X4 : ∀ w ∈ wsX40, w ∈ wsX4_answerInterrupt := by decide +kernel
set_option maxHeartbeats 4000000 in
set_option maxRecDepth 100000 in
theorem k_X4_answerInterrupt (l : Launch) (dC : Nat → ClassId) (dI : Nat → Nat → Nat) (cI : ClassId) (pO mS mA dS dA cO iA oA kO fO aO rA : Nat) (sz : Nat) (u : PW) : Met l yX4_answerInterrupt wsX4_answerInterrupt ({ frames := 2, cells := 0, slots := 0, locals := 43 }) (va_Pc [.ref pO] (wB dC dI [(cI, .int)] sz (wP cI pO mS mA dS dA cO iA oA kO fO aO rA u))) (va_Qi (fun (r : Int32) (u' : PW) => r = (f_X4_answerInterrupt u).1 ∧ u' = (f_X4_answerInterrupt u).2) (fun u' => wE dC dI [(cI, .int)] (va_A (wP cI pO mS mA dS dA cO iA oA kO fO aO rA u) sz) (wP cI pO mS mA dS dA cO iA oA kO fO aO rA u')) (va_A (wP cI pO mS mA dS dA cO iA oA kO fO aO rA u) sz)) 0 0 (va_A (wP cI pO mS mA dS dA cO iA oA kO fO aO rA u) sz) := by
  refine Met.ofW (cc := cX4_answerInterrupt) (maxL := 2) (ret := (some .int)) (by decide) rfl ?_
  intro p e s m args below meth c s₁ B hml hv
  obtain ⟨rfl, hsz, hP, hK, hD0⟩ := hv
  have hx := B.exec
  have hb := B.bytes
  have hr := B.returns
  have hts := atoms_spec (ws := wsX4_answerInterrupt) B.pre
  have hown : s.vm.findClass RX4 = some m.cls := findClass_of_methodNamed B.named
  have hlocks := B.notSynchronized
  subst hsz
  have hD := hD0.self (sz := s.heap.size)
  generalize hAe : va_A (wP cI pO mS mA dS dA cO iA oA kO fO aO rA u) s.heap.size = A at hD ⊢
  have hA : ∀ q : Nat, s.heap.size ≤ q → A q := fun q h => by rw [← hAe]; exact Or.inr h
  have hS : va_S A s.heap s.heap [] := va_S.rf
  have hP : va_P (dC, dI) vwCl (wP cI pO mS mA dS dA cO iA oA kO fO aO rA u) s.heap := hP
  clear hAe hD0
  have hl := lv_entry ([.ref pO]) (n := 2) (Nat.le_of_ble_eq_true rfl)
  rw [lg_entry_eq]
  generalize (lg_sl ([.ref pO]) ++ List.replicate (2 - (lg_sl ([.ref pO])).length) Slot.unset).toArray = ls at hl ⊢
  have hl : lv_has ls 2 [(0, .ref pO)] := hl
  refine jn_H hP hS (fun H locs hP hS => ?_)
  refine lv_aload_n hx hb dX4_answerInterrupt_0 rfl (lv_at hl 0 rfl) ?_
  refine va_get (D := (dC, dI)) (ci := 4) (v := .int (gPW_P_want u)) (C := RX4) (T := TX4) (N := 13) hx hb hts iX4_answerInterrupt_X4 hown hK hP 0 rfl rfl 11 (by decide) (hts _ qX4_answerInterrupt_0) (fun _ h9 => h9) rfl dX4_answerInterrupt_1 ?_
  refine lv_istore_n (lv' := [(1, .int (gPW_P_want u)), (0, .ref pO)]) hx hb dX4_answerInterrupt_4 rfl hl (by decide) rfl (fun ls hl => ?_)
  refine lv_aload_n hx hb dX4_answerInterrupt_5 rfl (lv_at hl 1 rfl) ?_
  refine lv_iconst (v := (-1)) hx hb dX4_answerInterrupt_6 (by decide) ?_
  refine va_put (D := (dC, dI)) (ci := 4) (v := .int (-1)) (ty := .int) (C := RX4) (T := TX4) (N := 13) hx hb hts iX4_answerInterrupt_X4 tyX4 tyX4_ok nmX4 hown hK hP hD hS 0 rfl rfl 11 (by decide) (hts _ qX4_answerInterrupt_0) (fun _ h9 => h9) rfl (by decide +kernel) rfl rfl (Nat.le_of_ble_eq_true rfl) dX4_answerInterrupt_7 (fun H locs hP hD hS => ?_)
  obtain ⟨hP, hD⟩ := pP_P_want hP hD
  refine lv_aload_n hx hb dX4_answerInterrupt_10 rfl (lv_at hl 1 rfl) ?_
  refine lv_iconst (v := 0) hx hb dX4_answerInterrupt_11 (by decide) ?_
  refine va_put (D := (dC, dI)) (ci := 4) (v := .int (bI false)) (ty := .boolean) (C := RX4) (T := TX4) (N := 13) hx hb hts iX4_answerInterrupt_X4 tyX4 tyX4_ok nmX4 hown hK hP hD hS 0 rfl rfl 9 (by decide) (hts _ qX4_answerInterrupt_1) (fun _ h9 => h9) rfl (by decide +kernel) (bI_nar false) (bI_fit false) (Nat.le_of_ble_eq_true rfl) dX4_answerInterrupt_12 (fun H locs hP hD hS => ?_)
  obtain ⟨hP, hD⟩ := pP_P_on hP hD
  refine lv_aload_n hx hb dX4_answerInterrupt_15 rfl (lv_at hl 1 rfl) ?_
  refine lv_iconst (v := 0) hx hb dX4_answerInterrupt_16 (by decide) ?_
  refine va_put (D := (dC, dI)) (ci := 4) (v := .int (bI false)) (ty := .boolean) (C := RX4) (T := TX4) (N := 13) hx hb hts iX4_answerInterrupt_X4 tyX4 tyX4_ok nmX4 hown hK hP hD hS 0 rfl rfl 8 (by decide) (hts _ qX4_answerInterrupt_2) (fun _ h9 => h9) rfl (by decide +kernel) (bI_nar false) (bI_fit false) (Nat.le_of_ble_eq_true rfl) dX4_answerInterrupt_17 (fun H locs hP hD hS => ?_)
  obtain ⟨hP, hD⟩ := pP_P_hlt hP hD
  refine lv_aload_n hx hb dX4_answerInterrupt_20 rfl (lv_at hl 1 rfl) ?_
  refine lv_aload_n hx hb dX4_answerInterrupt_21 rfl (lv_at hl 1 rfl) ?_
  refine va_get (D := (dC, dI)) (ci := 4) (v := .int (gPW_P_pc (sPW_P_hlt (sPW_P_on (sPW_P_want u (-1)) false) false))) (C := RX4) (T := TX4) (N := 13) hx hb hts iX4_answerInterrupt_X4 hown hK hP 0 rfl rfl 6 (by decide) (hts _ qX4_answerInterrupt_3) (fun _ h9 => h9) rfl dX4_answerInterrupt_22 ?_
  obtain ⟨hPc, hDc, hFc⟩ := xP_P hP hD hS hA
  have hKc := hK.sub (tys' := [(cI, .int)]) [0] rfl
  refine va_callv (va_runV (As := [.int (gPW_P_pc (sPW_P_hlt (sPW_P_on (sPW_P_want u (-1)) false) false))]) (rest := []) ⟨hx, hb, hml, hown, hts⟩ (k_X4_push l dC dI cI pO mS mA dS dA cO iA oA kO fO aO rA H.size (sPW_P_hlt (sPW_P_on (sPW_P_want u (-1)) false) false) (gPW_P_pc (sPW_P_hlt (sPW_P_on (sPW_P_want u (-1)) false) false))) (cwV 1 hts gX4_answerInterrupt_X4_push rfl rfl rfl (by decide +kernel) ⟨Nat.le_of_ble_eq_true rfl, Nat.le_of_ble_eq_true rfl⟩) ⟨fun a U g mk q => by obtain ⟨q0, q1, qP, qK, qD⟩ := q; exact ⟨q0, q1, qP, va_K.moved (u := U) (U := U.calling g mk a) (Vm.Alike.refl U.vm) qK, qD⟩, va_recv hKc hPc (ci := 4) (q0 := 0) rfl rfl, fun U hU hW => ⟨rfl, by rw [hU], by rw [hU]; exact hPc, va_K.moved hW.alike hKc, hDc.weaken (fun _ _ _ _ => trivial)⟩⟩ rfl rfl hl.1 rfl (lv_room (Nat.le_of_ble_eq_true rfl)) dX4_answerInterrupt_25 ⟨Nat.le_of_ble_eq_true rfl, Nat.le_of_ble_eq_true rfl⟩) hS (fun q _ h => hFc q h) hFc (fun u9 t H1 locs ht hvm hw hB hz1 hk1 hS => ?_)
  subst hw
  obtain ⟨hP1, hK1, hD1⟩ := hB
  rw [ht] at hP1
  obtain ⟨hP, hD⟩ := jP_P hP hD hk1 hFc hP1 hD1
  clear hPc hDc hKc hFc hz1 hk1 hP1 hK1 hD1 ht hvm
  generalize H1 = H at hP hS ⊢
  refine lv_aload_n hx hb dX4_answerInterrupt_28 rfl (lv_at hl 1 rfl) ?_
  refine lv_bipush (v := 8) hx hb dX4_answerInterrupt_29 (by decide) ?_
  refine lv_iload_n hx hb dX4_answerInterrupt_31 rfl (lv_at hl 0 rfl) ?_
  refine lv_imul hx hb dX4_answerInterrupt_32 ?_
  refine va_put (D := (dC, dI)) (ci := 4) (v := .int ((8 : Int32) * (gPW_P_want u))) (ty := .int) (C := RX4) (T := TX4) (N := 13) hx hb hts iX4_answerInterrupt_X4 tyX4 tyX4_ok nmX4 hown hK hP hD hS 0 rfl rfl 6 (by decide) (hts _ qX4_answerInterrupt_3) (fun _ h9 => h9) rfl (by decide +kernel) rfl rfl (Nat.le_of_ble_eq_true rfl) dX4_answerInterrupt_33 (fun H locs hP hD hS => ?_)
  obtain ⟨hP, hD⟩ := pP_P_pc hP hD
  refine lv_bipush (v := 11) hx hb dX4_answerInterrupt_36 (by decide) ?_
  exact W.iret (v := 11) hx hb hr (fun t ht hW => ⟨⟨11, (sPW_P_pc (f_X4_push (sPW_P_hlt (sPW_P_on (sPW_P_want u (-1)) false) false) (gPW_P_pc (sPW_P_hlt (sPW_P_on (sPW_P_want u (-1)) false) false))) ((8 : Int32) * (gPW_P_want u))), rfl, ⟨rfl, rfl⟩, by rw [ht]; exact hP, va_K.moved hW.alike hK, hD⟩, hS.F ht⟩) hS.2.2 dX4_answerInterrupt_38
