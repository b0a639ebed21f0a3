/-- what the reference does in a turn, up to the passing of its cycles -/
def f_X7_pre (u : MW) : MW := 
  if (gMW_want u) < (0 : Int32) then 
    if (bI (gMW_hlt u)) = (0 : Int32) then (f_X7_instruction u)
    else (sMW_jon (sMW_spent u 4) false)
  else 
    if (bI (gMW_on u)) = (0 : Int32) then 
      if (bI (gMW_hlt u)) = (0 : Int32) then (f_X7_instruction u)
      else (sMW_jon (sMW_spent u 4) false)
    else 
      if (bI (gMW_jon u)) = (0 : Int32) then (sMW_want (sMW_pc (f_X7_push (sMW_hlt (sMW_on (sMW_spent u 11) false) false) (gMW_pc (sMW_hlt (sMW_on (sMW_spent u 11) false) false))) ((8 : Int32) * (gMW_want (f_X7_push (sMW_hlt (sMW_on (sMW_spent u 11) false) false) (gMW_pc (sMW_hlt (sMW_on (sMW_spent u 11) false) false)))))) (-1))
      else 
        if (bI (gMW_hlt u)) = (0 : Int32) then (f_X7_instruction u)
        else (sMW_jon (sMW_spent u 4) false)
def f_X7_body (u : MW) : MW := f_X7_pass (f_X7_pre u)
/-- n turns: what they took, and where they led -/
def mit : Nat → MW → Int32 × MW
  | 0, u => (0, u)
  | n + 1, u => ((mit n u).1 + gMW_spent (f_X7_body (mit n u).2), f_X7_body (mit n u).2)
theorem mit_succ {tt : Int32} {vv u : MW} {j : Nat} (h : (tt, vv) = mit j u) : (tt + gMW_spent (f_X7_pass (f_X7_pre vv)), f_X7_pass (f_X7_pre vv)) = mit (j + 1) u := by
  show _ = ((mit j u).1 + gMW_spent (f_X7_body (mit j u).2), f_X7_body (mit j u).2)
  rw [← h]
  rfl
def mOK (u : MW) : Prop := (∃ q : Nat, q ≤ 64 ∧ gMW_ins u = nI q) ∧ ¬ gMW_outs u < 0 ∧ mv_ok (f_X7_pre u) ∧ gMW_thr (f_X7_body u) = gMW_thr u
theorem le_nI {x : Int32} {j : Nat} (h : x.toNatClampNeg ≤ j) (h2 : j ≤ x.toNatClampNeg) : x ≤ nI j := by
  rcases due_ok x with ⟨q1, q2⟩ | ⟨q1, q2⟩
  · obtain rfl : j = 0 := by omega
    exact q2
  · rw [q2]
    exact nI_le h (by have := clamp_lt x; omega)
theorem ge_nI {x : Int32} {j : Nat} (h : j ≤ x.toNatClampNeg) (h3 : x ≤ nI j) : j = x.toNatClampNeg := by
  rcases due_ok x with ⟨q1, q2⟩ | ⟨q1, q2⟩
  · omega
  · rw [q2] at h3
    have h4 := clamp_lt x
    have := (nI_leI h4 (by omega)).mp h3
    omega
def f_X7_step (u : MW) (a1 : Int32) : Int32 × MW := 
  if (bI (if a1 < (0 : Int32) then true else (if a1 ≤ (3000 : Int32) then false else true : Bool) : Bool)) = 0 then (mit (a1).toNatClampNeg (sMW_thr u (bI (if a1 < (0 : Int32) then true else (if a1 ≤ (3000 : Int32) then false else true : Bool) : Bool)))) else (0, (sMW_thr u (bI (if a1 < (0 : Int32) then true else (if a1 ≤ (3000 : Int32) then false else true : Bool) : Bool))))
theorem qX7_step_0 : Cond.fieldLink RX7 29 "DiskMachineModel" "thrown" "I" ∈ wsX7_step := by decide +kernel
theorem qX7_step_1 : Cond.fieldLink RX7 19 "DiskMachineModel" "wanted" "I" ∈ wsX7_step := by decide +kernel
theorem qX7_step_2 : Cond.fieldLink RX7 204 "DiskMachineModel" "halted" "Z" ∈ wsX7_step := by decide +kernel
theorem qX7_step_3 : Cond.fieldLink RX7 141 "DiskMachineModel" "spent" "I" ∈ wsX7_step := by decide +kernel
theorem qX7_step_4 : Cond.fieldLink RX7 199 "DiskMachineModel" "justOn" "Z" ∈ wsX7_step := by decide +kernel
theorem qX7_step_5 : Cond.fieldLink RX7 196 "DiskMachineModel" "on" "Z" ∈ wsX7_step := by decide +kernel
theorem qX7_step_6 : Cond.fieldLink RX7 47 "DiskMachineModel" "pc" "I" ∈ wsX7_step := by decide +kernel
theorem iX7_step_X7 : ∀ w ∈ wsX70, w ∈ wsX7_step := by decide +kernel
set_option maxHeartbeats 4000000 in
set_option maxRecDepth 100000 in
theorem k_X7_step (l : Launch) (dC : Nat → ClassId) (dI : Nat → Nat → Nat) (cI : ClassId) (mO memA dskA rgA inA outA : Nat) (sz : Nat) (u : MW) (a1 : Int32) (hG : bI (if a1 < (0 : Int32) then true else (if a1 ≤ (3000 : Int32) then false else true : Bool) : Bool) = 0 → ∀ j, j < (a1).toNatClampNeg → mOK (mit j (sMW_thr u (bI (if a1 < (0 : Int32) then true else (if a1 ≤ (3000 : Int32) then false else true : Bool) : Bool)))).2) : Met l yX7_step wsX7_step ({ frames := 6, cells := 0, slots := 0, locals := 135 }) (va_Pc [.ref mO, .int a1] (wB dC dI [(cI, .int)] sz (wM cI mO memA dskA rgA inA outA u))) (va_Qi (fun (r : Int32) (u' : MW) => r = (f_X7_step u a1).1 ∧ u' = (f_X7_step u a1).2) (fun u' => wE dC dI [(cI, .int)] (va_A (wM cI mO memA dskA rgA inA outA u) sz) (wM cI mO memA dskA rgA inA outA u')) (va_A (wM cI mO memA dskA rgA inA outA u) sz)) 0 0 (va_A (wM cI mO memA dskA rgA inA outA u) sz) := by
  refine Met.ofW (cc := cX7_step) (maxL := 4) (ret := (some .int)) (by decide) rfl ?_
  intro p e s m args below meth c s₁ B hml hv
  obtain ⟨rfl, hsz, hP, hK, hD0⟩ := hv
  have hx := B.exec
  have hb := B.bytes
  have hr := B.returns
  have hts := atoms_spec (ws := wsX7_step) B.pre
  have hown : s.vm.findClass RX7 = some m.cls := findClass_of_methodNamed B.named
  have hlocks := B.notSynchronized
  subst hsz
  have hD := hD0.self (sz := s.heap.size)
  generalize hAe : va_A (wM cI mO memA dskA rgA inA outA u) s.heap.size = A at hD ⊢
  have hA : ∀ q : Nat, s.heap.size ≤ q → A q := fun q h => by rw [← hAe]; exact Or.inr h
  have hS : va_S A s.heap s.heap [] := va_S.rf
  have hP : va_P (dC, dI) vwCl (wM cI mO memA dskA rgA inA outA u) s.heap := hP
  clear hAe hD0
  have hl := lv_entry ([.ref mO, .int a1]) (n := 4) (Nat.le_of_ble_eq_true rfl)
  rw [lg_entry_eq]
  generalize (lg_sl ([.ref mO, .int a1]) ++ List.replicate (4 - (lg_sl ([.ref mO, .int a1])).length) Slot.unset).toArray = ls at hl ⊢
  have hl : lv_has ls 4 [(0, .ref mO), (1, .int a1)] := hl
  refine jn_H hP hS (fun H locs hP hS => ?_)
  refine lv_aload_n hx hb dX7_step_0 rfl (lv_at hl 0 rfl) ?_
  refine lv_iload_n hx hb dX7_step_1 rfl (lv_at hl 1 rfl) ?_
  refine jn_b (D := (dC, dI)) (cl := vwCl) (ws := (wM cI mO memA dskA rgA inA outA u)) (A := A) (H0 := s.heap) (nL := 4) 17 (if a1 < (0 : Int32) then true else (if a1 ≤ (3000 : Int32) then false else true : Bool) : Bool) [(0, .ref mO), (1, .int a1)] [.ref mO] (fun H locs ls hP hS hl => ?_) (fun hJ1 => ?_)
  · skip
    refine va_put (D := (dC, dI)) (ci := 7) (v := .int (bI (if a1 < (0 : Int32) then true else (if a1 ≤ (3000 : Int32) then false else true : Bool) : Bool))) (ty := .int) (C := RX7) (T := TX7) (N := 30) hx hb hts iX7_step_X7 tyX7 tyX7_ok nmX7 hown hK hP hD hS 0 rfl rfl 0 (by decide) (hts _ qX7_step_0) (fun _ h9 => h9) rfl (by decide +kernel) rfl rfl (Nat.le_of_ble_eq_true rfl) dX7_step_17 (fun H locs hP hD hS => ?_)
    obtain ⟨hP, hD⟩ := pM_thr hP hD
    refine lv_iconst (v := 0) hx hb dX7_step_20 (by decide) ?_
    refine lv_istore_n (lv' := [(2, .int 0), (0, .ref mO), (1, .int a1)]) hx hb dX7_step_21 rfl hl (by decide) rfl (fun ls hl => ?_)
    refine lv_iconst (v := 0) hx hb dX7_step_22 (by decide) ?_
    refine lv_istore_n (lv' := [(3, .int 0), (2, .int 0), (0, .ref mO), (1, .int a1)]) hx hb dX7_step_23 rfl hl (by decide) rfl (fun ls hl => ?_)
    refine jn_lp (D := (dC, dI)) (cl := vwCl) (A := A) (H0 := s.heap) (nL := 4) (σ := Nat × Int32 × Int32 × MW) 24 (fun x => [(0, .ref mO), (1, .int a1), (2, .int x.2.2.1), (3, .int x.2.1)]) (fun x => (wM cI mO memA dskA rgA inA outA x.2.2.2)) (fun n x => x.1 + n = (a1).toNatClampNeg + 1 ∧ x.1 ≤ (a1).toNatClampNeg ∧ x.2.1 = nI x.1 ∧ (x.2.2.1, x.2.2.2) = mit x.1 (sMW_thr u (bI (if a1 < (0 : Int32) then true else (if a1 ≤ (3000 : Int32) then false else true : Bool) : Bool))) ∧ gMW_thr x.2.2.2 = bI (if a1 < (0 : Int32) then true else (if a1 ≤ (3000 : Int32) then false else true : Bool) : Bool) ∧ (¬ bI (if a1 < (0 : Int32) then true else (if a1 ≤ (3000 : Int32) then false else true : Bool) : Bool) = 0 → (x.2.2.1, x.2.2.2) = (0, (sMW_thr u (bI (if a1 < (0 : Int32) then true else (if a1 ≤ (3000 : Int32) then false else true : Bool) : Bool)))))) (fun x h => ?_) (fun n ih x H locs ls hI hP hD hS hl => ?_) (fun hloop => ?_)
    · obtain ⟨j, i, tt, vv⟩ := x
      try dsimp only at h
      obtain ⟨h1, h2, _⟩ := h
      omega
    · obtain ⟨j, i, tt, vv⟩ := x
      try dsimp only at hI
      obtain ⟨hn, hj, hi, hvp, htr, hnb⟩ := hI
      have htt : tt = (mit j (sMW_thr u (bI (if a1 < (0 : Int32) then true else (if a1 ≤ (3000 : Int32) then false else true : Bool) : Bool)))).1 := congrArg Prod.fst hvp
      have hvt : vv = (mit j (sMW_thr u (bI (if a1 < (0 : Int32) then true else (if a1 ≤ (3000 : Int32) then false else true : Bool) : Bool)))).2 := congrArg Prod.snd hvp
      have hP : va_P (dC, dI) vwCl (wM cI mO memA dskA rgA inA outA vv) H := hP
      have hD : va_D A (wM cI mO memA dskA rgA inA outA vv) := hD
      have hl : lv_has ls 4 [(0, .ref mO), (1, .int a1), (2, .int tt), (3, .int i)] := hl
      refine lv_iload_n hx hb dX7_step_24 rfl (lv_at hl 3 rfl) ?_
      refine lv_iload_n hx hb dX7_step_25 rfl (lv_at hl 1 rfl) ?_
      refine lv_icmp_ge (tgt := 141) hx hb dX7_step_26 (by decide) (fun c2 => ?_) (fun c2 => ?_)
      · skip
        have hfin : (tt, vv) = (if (bI (if a1 < (0 : Int32) then true else (if a1 ≤ (3000 : Int32) then false else true : Bool) : Bool)) = 0 then (mit (a1).toNatClampNeg (sMW_thr u (bI (if a1 < (0 : Int32) then true else (if a1 ≤ (3000 : Int32) then false else true : Bool) : Bool)))) else (0, (sMW_thr u (bI (if a1 < (0 : Int32) then true else (if a1 ≤ (3000 : Int32) then false else true : Bool) : Bool))))) := by
          by_cases hb9 : bI (if a1 < (0 : Int32) then true else (if a1 ≤ (3000 : Int32) then false else true : Bool) : Bool) = 0
          · rw [if_pos hb9]
            first | (exact absurd (show gMW_thr vv = 0 from htr.trans hb9) c2) | (have q9 := c2; rw [hi] at q9; obtain rfl := ge_nI hj q9; exact hvp)
          · rw [if_neg hb9]; exact hnb hb9
        refine lv_iload_n hx hb dX7_step_141 rfl (lv_at hl 2 rfl) ?_
        exact W.iret (v := tt) hx hb hr (fun t ht hW => ⟨⟨tt, vv, rfl, ⟨(by simp only [f_X7_step]; rw [← hfin]), (by simp only [f_X7_step]; rw [← hfin])⟩, by rw [ht]; exact hP, va_K.moved hW.alike hK, hD⟩, hS.F ht⟩) hS.2.2 dX7_step_142
      · skip
        refine lv_aload_n hx hb dX7_step_29 rfl (lv_at hl 0 rfl) ?_
        refine va_get (D := (dC, dI)) (ci := 7) (v := .int (gMW_thr vv)) (C := RX7) (T := TX7) (N := 30) hx hb hts iX7_step_X7 hown hK hP 0 rfl rfl 0 (by decide) (hts _ qX7_step_0) (fun _ h9 => h9) rfl dX7_step_30 ?_
        refine lv_if_ne (tgt := 141) hx hb dX7_step_33 (by decide) (fun c3 => ?_) (fun c3 => ?_)
        · skip
          have hfin : (tt, vv) = (if (bI (if a1 < (0 : Int32) then true else (if a1 ≤ (3000 : Int32) then false else true : Bool) : Bool)) = 0 then (mit (a1).toNatClampNeg (sMW_thr u (bI (if a1 < (0 : Int32) then true else (if a1 ≤ (3000 : Int32) then false else true : Bool) : Bool)))) else (0, (sMW_thr u (bI (if a1 < (0 : Int32) then true else (if a1 ≤ (3000 : Int32) then false else true : Bool) : Bool))))) := by
            by_cases hb9 : bI (if a1 < (0 : Int32) then true else (if a1 ≤ (3000 : Int32) then false else true : Bool) : Bool) = 0
            · rw [if_pos hb9]
              first | (exact absurd (show gMW_thr vv = 0 from htr.trans hb9) c3) | (have q9 := c3; rw [hi] at q9; obtain rfl := ge_nI hj q9; exact hvp)
            · rw [if_neg hb9]; exact hnb hb9
          refine lv_iload_n hx hb dX7_step_141 rfl (lv_at hl 2 rfl) ?_
          exact W.iret (v := tt) hx hb hr (fun t ht hW => ⟨⟨tt, vv, rfl, ⟨(by simp only [f_X7_step]; rw [← hfin]), (by simp only [f_X7_step]; rw [← hfin])⟩, by rw [ht]; exact hP, va_K.moved hW.alike hK, hD⟩, hS.F ht⟩) hS.2.2 dX7_step_142
        · skip
          have hb9 : bI (if a1 < (0 : Int32) then true else (if a1 ≤ (3000 : Int32) then false else true : Bool) : Bool) = 0 := by rw [← htr]; exact c3
          have hjN : j < (a1).toNatClampNeg := by have q9 := c2; rw [hi] at q9; exact Nat.lt_of_not_le (fun z => q9 (le_nI z hj))
          have hok : mOK vv := by have q9 := hG hb9 j hjN; rw [← hvt] at q9; exact q9
          refine lv_aload_n hx hb dX7_step_36 rfl (lv_at hl 0 rfl) ?_
          refine va_get (D := (dC, dI)) (ci := 7) (v := .int (gMW_want vv)) (C := RX7) (T := TX7) (N := 30) hx hb hts iX7_step_X7 hown hK hP 0 rfl rfl 14 (by decide) (hts _ qX7_step_1) (fun _ h9 => h9) rfl dX7_step_37 ?_
          refine lv_if_lt (tgt := 100) hx hb dX7_step_40 (by decide) (fun c4 => ?_) (fun c4 => ?_)
          · skip
            refine lv_aload_n hx hb dX7_step_100 rfl (lv_at hl 0 rfl) ?_
            refine va_get (D := (dC, dI)) (ci := 7) (v := .int (bI (gMW_hlt vv))) (C := RX7) (T := TX7) (N := 30) hx hb hts iX7_step_X7 hown hK hP 0 rfl rfl 11 (by decide) (hts _ qX7_step_2) (fun _ h9 => h9) rfl dX7_step_101 ?_
            refine lv_if_eq (tgt := 120) hx hb dX7_step_104 (by decide) (fun c5 => ?_) (fun c5 => ?_)
            · skip
              refine lv_aload_n hx hb dX7_step_120 rfl (lv_at hl 0 rfl) ?_
              obtain ⟨hPc, hDc, hFc⟩ := xM_M hP hD hS hA
              have hKc := hK.sub (tys' := [(cI, .int)]) [0] rfl
              refine va_callv (va_runV (As := []) (rest := []) ⟨hx, hb, hml, hown, hts⟩ (k_X7_instruction l dC dI cI mO memA dskA rgA inA outA H.size vv hok.1 hok.2.1) (cwV 0 hts gX7_step_X7_instruction rfl rfl rfl (by decide +kernel) ⟨Nat.le_of_ble_eq_true rfl, Nat.le_of_ble_eq_true rfl⟩) ⟨fun a U g mk q => by obtain ⟨q0, q1, qP, qK, qD⟩ := q; exact ⟨q0, q1, qP, va_K.moved (u := U) (U := U.calling g mk a) (Vm.Alike.refl U.vm) qK, qD⟩, va_recv hKc hPc (ci := 7) (q0 := 0) rfl rfl, fun U hU hW => ⟨rfl, by rw [hU], by rw [hU]; exact hPc, va_K.moved hW.alike hKc, hDc.weaken (fun _ _ _ _ => trivial)⟩⟩ rfl rfl hl.1 rfl (lv_room (Nat.le_of_ble_eq_true rfl)) dX7_step_121 ⟨Nat.le_of_ble_eq_true rfl, Nat.le_of_ble_eq_true rfl⟩) hS (fun q _ h => hFc q h) hFc (fun u9 t H1 locs ht hvm hw hB hz1 hk1 hS => ?_)
              subst hw
              obtain ⟨hP1, hK1, hD1⟩ := hB
              rw [ht] at hP1
              obtain ⟨hP, hD⟩ := jM_M hP hD hk1 hFc hP1 hD1
              clear hPc hDc hKc hFc hz1 hk1 hP1 hK1 hD1 ht hvm
              generalize H1 = H at hP hS ⊢
              have e9 : (f_X7_instruction vv) = f_X7_pre vv := (by simp only [f_X7_pre, if_neg c2, if_pos c3, if_pos c4, if_pos c5])
              rw [e9] at hP hD
              refine lv_aload_n hx hb dX7_step_124 rfl (lv_at hl 0 rfl) ?_
              obtain ⟨hPc, hDc, hFc⟩ := xM_M hP hD hS hA
              have hKc := hK.sub (tys' := [(cI, .int)]) [0] rfl
              refine va_callv (va_runV (As := []) (rest := []) ⟨hx, hb, hml, hown, hts⟩ (k_X7_pass l dC dI cI mO memA dskA rgA inA outA H.size (f_X7_pre vv) hok.2.2.1) (cwV 0 hts gX7_step_X7_pass rfl rfl rfl (by decide +kernel) ⟨Nat.le_of_ble_eq_true rfl, Nat.le_of_ble_eq_true rfl⟩) ⟨fun a U g mk q => by obtain ⟨q0, q1, qP, qK, qD⟩ := q; exact ⟨q0, q1, qP, va_K.moved (u := U) (U := U.calling g mk a) (Vm.Alike.refl U.vm) qK, qD⟩, va_recv hKc hPc (ci := 7) (q0 := 0) rfl rfl, fun U hU hW => ⟨rfl, by rw [hU], by rw [hU]; exact hPc, va_K.moved hW.alike hKc, hDc.weaken (fun _ _ _ _ => trivial)⟩⟩ rfl rfl hl.1 rfl (lv_room (Nat.le_of_ble_eq_true rfl)) dX7_step_125 ⟨Nat.le_of_ble_eq_true rfl, Nat.le_of_ble_eq_true rfl⟩) hS (fun q _ h => hFc q h) hFc (fun u9 t H1 locs ht hvm hw hB hz1 hk1 hS => ?_)
              subst hw
              obtain ⟨hP1, hK1, hD1⟩ := hB
              rw [ht] at hP1
              obtain ⟨hP, hD⟩ := jM_M hP hD hk1 hFc hP1 hD1
              clear hPc hDc hKc hFc hz1 hk1 hP1 hK1 hD1 ht hvm
              generalize H1 = H at hP hS ⊢
              refine lv_iload_n hx hb dX7_step_128 rfl (lv_at hl 2 rfl) ?_
              refine lv_aload_n hx hb dX7_step_129 rfl (lv_at hl 0 rfl) ?_
              refine va_get (D := (dC, dI)) (ci := 7) (v := .int (gMW_spent (f_X7_pass (f_X7_pre vv)))) (C := RX7) (T := TX7) (N := 30) hx hb hts iX7_step_X7 hown hK hP 0 rfl rfl 16 (by decide) (hts _ qX7_step_3) (fun _ h9 => h9) rfl dX7_step_130 ?_
              refine lv_iadd hx hb dX7_step_133 ?_
              refine lv_istore_n (lv' := [(2, .int (tt + (gMW_spent (f_X7_pass (f_X7_pre vv))))), (0, .ref mO), (1, .int a1), (3, .int i)]) hx hb dX7_step_134 rfl hl (by decide) rfl (fun ls hl => ?_)
              refine lv_iinc (v := (i + (1 : Int32))) (lv' := [(3, .int (i + (1 : Int32))), (2, .int (tt + (gMW_spent (f_X7_pass (f_X7_pre vv))))), (0, .ref mO), (1, .int a1)]) hx hb dX7_step_135 hl (k := 3) rfl rfl (by decide) rfl (fun ls hl => ?_)
              refine lv_goto (tgt := 24) hx hb dX7_step_138 (by decide) ?_
              exact ih ((j + 1), (i + (1 : Int32)), (tt + (gMW_spent (f_X7_pass (f_X7_pre vv)))), (f_X7_pass (f_X7_pre vv))) _ _ _ (⟨by omega, by omega, by rw [hi]; exact nI_1 j, mit_succ hvp, by rw [← htr]; exact hok.2.2.2, fun z => absurd hb9 z⟩) hP hD hS (lv_sub hl [2, 3, 1, 0] rfl)
            · skip
              refine lv_aload_n hx hb dX7_step_107 rfl (lv_at hl 0 rfl) ?_
              refine lv_iconst (v := 4) hx hb dX7_step_108 (by decide) ?_
              refine va_put (D := (dC, dI)) (ci := 7) (v := .int 4) (ty := .int) (C := RX7) (T := TX7) (N := 30) hx hb hts iX7_step_X7 tyX7 tyX7_ok nmX7 hown hK hP hD hS 0 rfl rfl 16 (by decide) (hts _ qX7_step_3) (fun _ h9 => h9) rfl (by decide +kernel) rfl rfl (Nat.le_of_ble_eq_true rfl) dX7_step_109 (fun H locs hP hD hS => ?_)
              obtain ⟨hP, hD⟩ := pM_spent hP hD
              refine lv_aload_n hx hb dX7_step_112 rfl (lv_at hl 0 rfl) ?_
              refine lv_iconst (v := 0) hx hb dX7_step_113 (by decide) ?_
              refine va_put (D := (dC, dI)) (ci := 7) (v := .int (bI false)) (ty := .boolean) (C := RX7) (T := TX7) (N := 30) hx hb hts iX7_step_X7 tyX7 tyX7_ok nmX7 hown hK hP hD hS 0 rfl rfl 13 (by decide) (hts _ qX7_step_4) (fun _ h9 => h9) rfl (by decide +kernel) (bI_nar false) (bI_fit false) (Nat.le_of_ble_eq_true rfl) dX7_step_114 (fun H locs hP hD hS => ?_)
              obtain ⟨hP, hD⟩ := pM_jon hP hD
              refine lv_goto (tgt := 124) hx hb dX7_step_117 (by decide) ?_
              have e9 : (sMW_jon (sMW_spent vv 4) false) = f_X7_pre vv := (by simp only [f_X7_pre, if_neg c2, if_pos c3, if_pos c4, if_neg c5])
              rw [e9] at hP hD
              refine lv_aload_n hx hb dX7_step_124 rfl (lv_at hl 0 rfl) ?_
              obtain ⟨hPc, hDc, hFc⟩ := xM_M hP hD hS hA
              have hKc := hK.sub (tys' := [(cI, .int)]) [0] rfl
              refine va_callv (va_runV (As := []) (rest := []) ⟨hx, hb, hml, hown, hts⟩ (k_X7_pass l dC dI cI mO memA dskA rgA inA outA H.size (f_X7_pre vv) hok.2.2.1) (cwV 0 hts gX7_step_X7_pass rfl rfl rfl (by decide +kernel) ⟨Nat.le_of_ble_eq_true rfl, Nat.le_of_ble_eq_true rfl⟩) ⟨fun a U g mk q => by obtain ⟨q0, q1, qP, qK, qD⟩ := q; exact ⟨q0, q1, qP, va_K.moved (u := U) (U := U.calling g mk a) (Vm.Alike.refl U.vm) qK, qD⟩, va_recv hKc hPc (ci := 7) (q0 := 0) rfl rfl, fun U hU hW => ⟨rfl, by rw [hU], by rw [hU]; exact hPc, va_K.moved hW.alike hKc, hDc.weaken (fun _ _ _ _ => trivial)⟩⟩ rfl rfl hl.1 rfl (lv_room (Nat.le_of_ble_eq_true rfl)) dX7_step_125 ⟨Nat.le_of_ble_eq_true rfl, Nat.le_of_ble_eq_true rfl⟩) hS (fun q _ h => hFc q h) hFc (fun u9 t H1 locs ht hvm hw hB hz1 hk1 hS => ?_)
              subst hw
              obtain ⟨hP1, hK1, hD1⟩ := hB
              rw [ht] at hP1
              obtain ⟨hP, hD⟩ := jM_M hP hD hk1 hFc hP1 hD1
              clear hPc hDc hKc hFc hz1 hk1 hP1 hK1 hD1 ht hvm
              generalize H1 = H at hP hS ⊢
              refine lv_iload_n hx hb dX7_step_128 rfl (lv_at hl 2 rfl) ?_
              refine lv_aload_n hx hb dX7_step_129 rfl (lv_at hl 0 rfl) ?_
              refine va_get (D := (dC, dI)) (ci := 7) (v := .int (gMW_spent (f_X7_pass (f_X7_pre vv)))) (C := RX7) (T := TX7) (N := 30) hx hb hts iX7_step_X7 hown hK hP 0 rfl rfl 16 (by decide) (hts _ qX7_step_3) (fun _ h9 => h9) rfl dX7_step_130 ?_
              refine lv_iadd hx hb dX7_step_133 ?_
              refine lv_istore_n (lv' := [(2, .int (tt + (gMW_spent (f_X7_pass (f_X7_pre vv))))), (0, .ref mO), (1, .int a1), (3, .int i)]) hx hb dX7_step_134 rfl hl (by decide) rfl (fun ls hl => ?_)
              refine lv_iinc (v := (i + (1 : Int32))) (lv' := [(3, .int (i + (1 : Int32))), (2, .int (tt + (gMW_spent (f_X7_pass (f_X7_pre vv))))), (0, .ref mO), (1, .int a1)]) hx hb dX7_step_135 hl (k := 3) rfl rfl (by decide) rfl (fun ls hl => ?_)
              refine lv_goto (tgt := 24) hx hb dX7_step_138 (by decide) ?_
              exact ih ((j + 1), (i + (1 : Int32)), (tt + (gMW_spent (f_X7_pass (f_X7_pre vv)))), (f_X7_pass (f_X7_pre vv))) _ _ _ (⟨by omega, by omega, by rw [hi]; exact nI_1 j, mit_succ hvp, by rw [← htr]; exact hok.2.2.2, fun z => absurd hb9 z⟩) hP hD hS (lv_sub hl [2, 3, 1, 0] rfl)
          · skip
            refine lv_aload_n hx hb dX7_step_43 rfl (lv_at hl 0 rfl) ?_
            refine va_get (D := (dC, dI)) (ci := 7) (v := .int (bI (gMW_on vv))) (C := RX7) (T := TX7) (N := 30) hx hb hts iX7_step_X7 hown hK hP 0 rfl rfl 12 (by decide) (hts _ qX7_step_5) (fun _ h9 => h9) rfl dX7_step_44 ?_
            refine lv_if_eq (tgt := 100) hx hb dX7_step_47 (by decide) (fun c6 => ?_) (fun c6 => ?_)
            · skip
              refine lv_aload_n hx hb dX7_step_100 rfl (lv_at hl 0 rfl) ?_
              refine va_get (D := (dC, dI)) (ci := 7) (v := .int (bI (gMW_hlt vv))) (C := RX7) (T := TX7) (N := 30) hx hb hts iX7_step_X7 hown hK hP 0 rfl rfl 11 (by decide) (hts _ qX7_step_2) (fun _ h9 => h9) rfl dX7_step_101 ?_
              refine lv_if_eq (tgt := 120) hx hb dX7_step_104 (by decide) (fun c7 => ?_) (fun c7 => ?_)
              · skip
                refine lv_aload_n hx hb dX7_step_120 rfl (lv_at hl 0 rfl) ?_
                obtain ⟨hPc, hDc, hFc⟩ := xM_M hP hD hS hA
                have hKc := hK.sub (tys' := [(cI, .int)]) [0] rfl
                refine va_callv (va_runV (As := []) (rest := []) ⟨hx, hb, hml, hown, hts⟩ (k_X7_instruction l dC dI cI mO memA dskA rgA inA outA H.size vv hok.1 hok.2.1) (cwV 0 hts gX7_step_X7_instruction rfl rfl rfl (by decide +kernel) ⟨Nat.le_of_ble_eq_true rfl, Nat.le_of_ble_eq_true rfl⟩) ⟨fun a U g mk q => by obtain ⟨q0, q1, qP, qK, qD⟩ := q; exact ⟨q0, q1, qP, va_K.moved (u := U) (U := U.calling g mk a) (Vm.Alike.refl U.vm) qK, qD⟩, va_recv hKc hPc (ci := 7) (q0 := 0) rfl rfl, fun U hU hW => ⟨rfl, by rw [hU], by rw [hU]; exact hPc, va_K.moved hW.alike hKc, hDc.weaken (fun _ _ _ _ => trivial)⟩⟩ rfl rfl hl.1 rfl (lv_room (Nat.le_of_ble_eq_true rfl)) dX7_step_121 ⟨Nat.le_of_ble_eq_true rfl, Nat.le_of_ble_eq_true rfl⟩) hS (fun q _ h => hFc q h) hFc (fun u9 t H1 locs ht hvm hw hB hz1 hk1 hS => ?_)
                subst hw
                obtain ⟨hP1, hK1, hD1⟩ := hB
                rw [ht] at hP1
                obtain ⟨hP, hD⟩ := jM_M hP hD hk1 hFc hP1 hD1
                clear hPc hDc hKc hFc hz1 hk1 hP1 hK1 hD1 ht hvm
                generalize H1 = H at hP hS ⊢
                have e9 : (f_X7_instruction vv) = f_X7_pre vv := (by simp only [f_X7_pre, if_neg c2, if_pos c3, if_neg c4, if_pos c6, if_pos c7])
                rw [e9] at hP hD
                refine lv_aload_n hx hb dX7_step_124 rfl (lv_at hl 0 rfl) ?_
                obtain ⟨hPc, hDc, hFc⟩ := xM_M hP hD hS hA
                have hKc := hK.sub (tys' := [(cI, .int)]) [0] rfl
                refine va_callv (va_runV (As := []) (rest := []) ⟨hx, hb, hml, hown, hts⟩ (k_X7_pass l dC dI cI mO memA dskA rgA inA outA H.size (f_X7_pre vv) hok.2.2.1) (cwV 0 hts gX7_step_X7_pass rfl rfl rfl (by decide +kernel) ⟨Nat.le_of_ble_eq_true rfl, Nat.le_of_ble_eq_true rfl⟩) ⟨fun a U g mk q => by obtain ⟨q0, q1, qP, qK, qD⟩ := q; exact ⟨q0, q1, qP, va_K.moved (u := U) (U := U.calling g mk a) (Vm.Alike.refl U.vm) qK, qD⟩, va_recv hKc hPc (ci := 7) (q0 := 0) rfl rfl, fun U hU hW => ⟨rfl, by rw [hU], by rw [hU]; exact hPc, va_K.moved hW.alike hKc, hDc.weaken (fun _ _ _ _ => trivial)⟩⟩ rfl rfl hl.1 rfl (lv_room (Nat.le_of_ble_eq_true rfl)) dX7_step_125 ⟨Nat.le_of_ble_eq_true rfl, Nat.le_of_ble_eq_true rfl⟩) hS (fun q _ h => hFc q h) hFc (fun u9 t H1 locs ht hvm hw hB hz1 hk1 hS => ?_)
                subst hw
                obtain ⟨hP1, hK1, hD1⟩ := hB
                rw [ht] at hP1
                obtain ⟨hP, hD⟩ := jM_M hP hD hk1 hFc hP1 hD1
                clear hPc hDc hKc hFc hz1 hk1 hP1 hK1 hD1 ht hvm
                generalize H1 = H at hP hS ⊢
                refine lv_iload_n hx hb dX7_step_128 rfl (lv_at hl 2 rfl) ?_
                refine lv_aload_n hx hb dX7_step_129 rfl (lv_at hl 0 rfl) ?_
                refine va_get (D := (dC, dI)) (ci := 7) (v := .int (gMW_spent (f_X7_pass (f_X7_pre vv)))) (C := RX7) (T := TX7) (N := 30) hx hb hts iX7_step_X7 hown hK hP 0 rfl rfl 16 (by decide) (hts _ qX7_step_3) (fun _ h9 => h9) rfl dX7_step_130 ?_
                refine lv_iadd hx hb dX7_step_133 ?_
                refine lv_istore_n (lv' := [(2, .int (tt + (gMW_spent (f_X7_pass (f_X7_pre vv))))), (0, .ref mO), (1, .int a1), (3, .int i)]) hx hb dX7_step_134 rfl hl (by decide) rfl (fun ls hl => ?_)
                refine lv_iinc (v := (i + (1 : Int32))) (lv' := [(3, .int (i + (1 : Int32))), (2, .int (tt + (gMW_spent (f_X7_pass (f_X7_pre vv))))), (0, .ref mO), (1, .int a1)]) hx hb dX7_step_135 hl (k := 3) rfl rfl (by decide) rfl (fun ls hl => ?_)
                refine lv_goto (tgt := 24) hx hb dX7_step_138 (by decide) ?_
                exact ih ((j + 1), (i + (1 : Int32)), (tt + (gMW_spent (f_X7_pass (f_X7_pre vv)))), (f_X7_pass (f_X7_pre vv))) _ _ _ (⟨by omega, by omega, by rw [hi]; exact nI_1 j, mit_succ hvp, by rw [← htr]; exact hok.2.2.2, fun z => absurd hb9 z⟩) hP hD hS (lv_sub hl [2, 3, 1, 0] rfl)
              · skip
                refine lv_aload_n hx hb dX7_step_107 rfl (lv_at hl 0 rfl) ?_
                refine lv_iconst (v := 4) hx hb dX7_step_108 (by decide) ?_
                refine va_put (D := (dC, dI)) (ci := 7) (v := .int 4) (ty := .int) (C := RX7) (T := TX7) (N := 30) hx hb hts iX7_step_X7 tyX7 tyX7_ok nmX7 hown hK hP hD hS 0 rfl rfl 16 (by decide) (hts _ qX7_step_3) (fun _ h9 => h9) rfl (by decide +kernel) rfl rfl (Nat.le_of_ble_eq_true rfl) dX7_step_109 (fun H locs hP hD hS => ?_)
                obtain ⟨hP, hD⟩ := pM_spent hP hD
                refine lv_aload_n hx hb dX7_step_112 rfl (lv_at hl 0 rfl) ?_
                refine lv_iconst (v := 0) hx hb dX7_step_113 (by decide) ?_
                refine va_put (D := (dC, dI)) (ci := 7) (v := .int (bI false)) (ty := .boolean) (C := RX7) (T := TX7) (N := 30) hx hb hts iX7_step_X7 tyX7 tyX7_ok nmX7 hown hK hP hD hS 0 rfl rfl 13 (by decide) (hts _ qX7_step_4) (fun _ h9 => h9) rfl (by decide +kernel) (bI_nar false) (bI_fit false) (Nat.le_of_ble_eq_true rfl) dX7_step_114 (fun H locs hP hD hS => ?_)
                obtain ⟨hP, hD⟩ := pM_jon hP hD
                refine lv_goto (tgt := 124) hx hb dX7_step_117 (by decide) ?_
                have e9 : (sMW_jon (sMW_spent vv 4) false) = f_X7_pre vv := (by simp only [f_X7_pre, if_neg c2, if_pos c3, if_neg c4, if_pos c6, if_neg c7])
                rw [e9] at hP hD
                refine lv_aload_n hx hb dX7_step_124 rfl (lv_at hl 0 rfl) ?_
                obtain ⟨hPc, hDc, hFc⟩ := xM_M hP hD hS hA
                have hKc := hK.sub (tys' := [(cI, .int)]) [0] rfl
                refine va_callv (va_runV (As := []) (rest := []) ⟨hx, hb, hml, hown, hts⟩ (k_X7_pass l dC dI cI mO memA dskA rgA inA outA H.size (f_X7_pre vv) hok.2.2.1) (cwV 0 hts gX7_step_X7_pass rfl rfl rfl (by decide +kernel) ⟨Nat.le_of_ble_eq_true rfl, Nat.le_of_ble_eq_true rfl⟩) ⟨fun a U g mk q => by obtain ⟨q0, q1, qP, qK, qD⟩ := q; exact ⟨q0, q1, qP, va_K.moved (u := U) (U := U.calling g mk a) (Vm.Alike.refl U.vm) qK, qD⟩, va_recv hKc hPc (ci := 7) (q0 := 0) rfl rfl, fun U hU hW => ⟨rfl, by rw [hU], by rw [hU]; exact hPc, va_K.moved hW.alike hKc, hDc.weaken (fun _ _ _ _ => trivial)⟩⟩ rfl rfl hl.1 rfl (lv_room (Nat.le_of_ble_eq_true rfl)) dX7_step_125 ⟨Nat.le_of_ble_eq_true rfl, Nat.le_of_ble_eq_true rfl⟩) hS (fun q _ h => hFc q h) hFc (fun u9 t H1 locs ht hvm hw hB hz1 hk1 hS => ?_)
                subst hw
                obtain ⟨hP1, hK1, hD1⟩ := hB
                rw [ht] at hP1
                obtain ⟨hP, hD⟩ := jM_M hP hD hk1 hFc hP1 hD1
                clear hPc hDc hKc hFc hz1 hk1 hP1 hK1 hD1 ht hvm
                generalize H1 = H at hP hS ⊢
                refine lv_iload_n hx hb dX7_step_128 rfl (lv_at hl 2 rfl) ?_
                refine lv_aload_n hx hb dX7_step_129 rfl (lv_at hl 0 rfl) ?_
                refine va_get (D := (dC, dI)) (ci := 7) (v := .int (gMW_spent (f_X7_pass (f_X7_pre vv)))) (C := RX7) (T := TX7) (N := 30) hx hb hts iX7_step_X7 hown hK hP 0 rfl rfl 16 (by decide) (hts _ qX7_step_3) (fun _ h9 => h9) rfl dX7_step_130 ?_
                refine lv_iadd hx hb dX7_step_133 ?_
                refine lv_istore_n (lv' := [(2, .int (tt + (gMW_spent (f_X7_pass (f_X7_pre vv))))), (0, .ref mO), (1, .int a1), (3, .int i)]) hx hb dX7_step_134 rfl hl (by decide) rfl (fun ls hl => ?_)
                refine lv_iinc (v := (i + (1 : Int32))) (lv' := [(3, .int (i + (1 : Int32))), (2, .int (tt + (gMW_spent (f_X7_pass (f_X7_pre vv))))), (0, .ref mO), (1, .int a1)]) hx hb dX7_step_135 hl (k := 3) rfl rfl (by decide) rfl (fun ls hl => ?_)
                refine lv_goto (tgt := 24) hx hb dX7_step_138 (by decide) ?_
                exact ih ((j + 1), (i + (1 : Int32)), (tt + (gMW_spent (f_X7_pass (f_X7_pre vv)))), (f_X7_pass (f_X7_pre vv))) _ _ _ (⟨by omega, by omega, by rw [hi]; exact nI_1 j, mit_succ hvp, by rw [← htr]; exact hok.2.2.2, fun z => absurd hb9 z⟩) hP hD hS (lv_sub hl [2, 3, 1, 0] rfl)
            · skip
              refine lv_aload_n hx hb dX7_step_50 rfl (lv_at hl 0 rfl) ?_
              refine va_get (D := (dC, dI)) (ci := 7) (v := .int (bI (gMW_jon vv))) (C := RX7) (T := TX7) (N := 30) hx hb hts iX7_step_X7 hown hK hP 0 rfl rfl 13 (by decide) (hts _ qX7_step_4) (fun _ h9 => h9) rfl dX7_step_51 ?_
              refine lv_if_ne (tgt := 100) hx hb dX7_step_54 (by decide) (fun c8 => ?_) (fun c8 => ?_)
              · skip
                refine lv_aload_n hx hb dX7_step_100 rfl (lv_at hl 0 rfl) ?_
                refine va_get (D := (dC, dI)) (ci := 7) (v := .int (bI (gMW_hlt vv))) (C := RX7) (T := TX7) (N := 30) hx hb hts iX7_step_X7 hown hK hP 0 rfl rfl 11 (by decide) (hts _ qX7_step_2) (fun _ h9 => h9) rfl dX7_step_101 ?_
                refine lv_if_eq (tgt := 120) hx hb dX7_step_104 (by decide) (fun c9 => ?_) (fun c9 => ?_)
                · skip
                  refine lv_aload_n hx hb dX7_step_120 rfl (lv_at hl 0 rfl) ?_
                  obtain ⟨hPc, hDc, hFc⟩ := xM_M hP hD hS hA
                  have hKc := hK.sub (tys' := [(cI, .int)]) [0] rfl
                  refine va_callv (va_runV (As := []) (rest := []) ⟨hx, hb, hml, hown, hts⟩ (k_X7_instruction l dC dI cI mO memA dskA rgA inA outA H.size vv hok.1 hok.2.1) (cwV 0 hts gX7_step_X7_instruction rfl rfl rfl (by decide +kernel) ⟨Nat.le_of_ble_eq_true rfl, Nat.le_of_ble_eq_true rfl⟩) ⟨fun a U g mk q => by obtain ⟨q0, q1, qP, qK, qD⟩ := q; exact ⟨q0, q1, qP, va_K.moved (u := U) (U := U.calling g mk a) (Vm.Alike.refl U.vm) qK, qD⟩, va_recv hKc hPc (ci := 7) (q0 := 0) rfl rfl, fun U hU hW => ⟨rfl, by rw [hU], by rw [hU]; exact hPc, va_K.moved hW.alike hKc, hDc.weaken (fun _ _ _ _ => trivial)⟩⟩ rfl rfl hl.1 rfl (lv_room (Nat.le_of_ble_eq_true rfl)) dX7_step_121 ⟨Nat.le_of_ble_eq_true rfl, Nat.le_of_ble_eq_true rfl⟩) hS (fun q _ h => hFc q h) hFc (fun u9 t H1 locs ht hvm hw hB hz1 hk1 hS => ?_)
                  subst hw
                  obtain ⟨hP1, hK1, hD1⟩ := hB
                  rw [ht] at hP1
                  obtain ⟨hP, hD⟩ := jM_M hP hD hk1 hFc hP1 hD1
                  clear hPc hDc hKc hFc hz1 hk1 hP1 hK1 hD1 ht hvm
                  generalize H1 = H at hP hS ⊢
                  have e9 : (f_X7_instruction vv) = f_X7_pre vv := (by simp only [f_X7_pre, if_neg c2, if_pos c3, if_neg c4, if_neg c6, if_neg c8, if_pos c9])
                  rw [e9] at hP hD
                  refine lv_aload_n hx hb dX7_step_124 rfl (lv_at hl 0 rfl) ?_
                  obtain ⟨hPc, hDc, hFc⟩ := xM_M hP hD hS hA
                  have hKc := hK.sub (tys' := [(cI, .int)]) [0] rfl
                  refine va_callv (va_runV (As := []) (rest := []) ⟨hx, hb, hml, hown, hts⟩ (k_X7_pass l dC dI cI mO memA dskA rgA inA outA H.size (f_X7_pre vv) hok.2.2.1) (cwV 0 hts gX7_step_X7_pass rfl rfl rfl (by decide +kernel) ⟨Nat.le_of_ble_eq_true rfl, Nat.le_of_ble_eq_true rfl⟩) ⟨fun a U g mk q => by obtain ⟨q0, q1, qP, qK, qD⟩ := q; exact ⟨q0, q1, qP, va_K.moved (u := U) (U := U.calling g mk a) (Vm.Alike.refl U.vm) qK, qD⟩, va_recv hKc hPc (ci := 7) (q0 := 0) rfl rfl, fun U hU hW => ⟨rfl, by rw [hU], by rw [hU]; exact hPc, va_K.moved hW.alike hKc, hDc.weaken (fun _ _ _ _ => trivial)⟩⟩ rfl rfl hl.1 rfl (lv_room (Nat.le_of_ble_eq_true rfl)) dX7_step_125 ⟨Nat.le_of_ble_eq_true rfl, Nat.le_of_ble_eq_true rfl⟩) hS (fun q _ h => hFc q h) hFc (fun u9 t H1 locs ht hvm hw hB hz1 hk1 hS => ?_)
                  subst hw
                  obtain ⟨hP1, hK1, hD1⟩ := hB
                  rw [ht] at hP1
                  obtain ⟨hP, hD⟩ := jM_M hP hD hk1 hFc hP1 hD1
                  clear hPc hDc hKc hFc hz1 hk1 hP1 hK1 hD1 ht hvm
                  generalize H1 = H at hP hS ⊢
                  refine lv_iload_n hx hb dX7_step_128 rfl (lv_at hl 2 rfl) ?_
                  refine lv_aload_n hx hb dX7_step_129 rfl (lv_at hl 0 rfl) ?_
                  refine va_get (D := (dC, dI)) (ci := 7) (v := .int (gMW_spent (f_X7_pass (f_X7_pre vv)))) (C := RX7) (T := TX7) (N := 30) hx hb hts iX7_step_X7 hown hK hP 0 rfl rfl 16 (by decide) (hts _ qX7_step_3) (fun _ h9 => h9) rfl dX7_step_130 ?_
                  refine lv_iadd hx hb dX7_step_133 ?_
                  refine lv_istore_n (lv' := [(2, .int (tt + (gMW_spent (f_X7_pass (f_X7_pre vv))))), (0, .ref mO), (1, .int a1), (3, .int i)]) hx hb dX7_step_134 rfl hl (by decide) rfl (fun ls hl => ?_)
                  refine lv_iinc (v := (i + (1 : Int32))) (lv' := [(3, .int (i + (1 : Int32))), (2, .int (tt + (gMW_spent (f_X7_pass (f_X7_pre vv))))), (0, .ref mO), (1, .int a1)]) hx hb dX7_step_135 hl (k := 3) rfl rfl (by decide) rfl (fun ls hl => ?_)
                  refine lv_goto (tgt := 24) hx hb dX7_step_138 (by decide) ?_
                  exact ih ((j + 1), (i + (1 : Int32)), (tt + (gMW_spent (f_X7_pass (f_X7_pre vv)))), (f_X7_pass (f_X7_pre vv))) _ _ _ (⟨by omega, by omega, by rw [hi]; exact nI_1 j, mit_succ hvp, by rw [← htr]; exact hok.2.2.2, fun z => absurd hb9 z⟩) hP hD hS (lv_sub hl [2, 3, 1, 0] rfl)
                · skip
                  refine lv_aload_n hx hb dX7_step_107 rfl (lv_at hl 0 rfl) ?_
                  refine lv_iconst (v := 4) hx hb dX7_step_108 (by decide) ?_
                  refine va_put (D := (dC, dI)) (ci := 7) (v := .int 4) (ty := .int) (C := RX7) (T := TX7) (N := 30) hx hb hts iX7_step_X7 tyX7 tyX7_ok nmX7 hown hK hP hD hS 0 rfl rfl 16 (by decide) (hts _ qX7_step_3) (fun _ h9 => h9) rfl (by decide +kernel) rfl rfl (Nat.le_of_ble_eq_true rfl) dX7_step_109 (fun H locs hP hD hS => ?_)
                  obtain ⟨hP, hD⟩ := pM_spent hP hD
                  refine lv_aload_n hx hb dX7_step_112 rfl (lv_at hl 0 rfl) ?_
                  refine lv_iconst (v := 0) hx hb dX7_step_113 (by decide) ?_
                  refine va_put (D := (dC, dI)) (ci := 7) (v := .int (bI false)) (ty := .boolean) (C := RX7) (T := TX7) (N := 30) hx hb hts iX7_step_X7 tyX7 tyX7_ok nmX7 hown hK hP hD hS 0 rfl rfl 13 (by decide) (hts _ qX7_step_4) (fun _ h9 => h9) rfl (by decide +kernel) (bI_nar false) (bI_fit false) (Nat.le_of_ble_eq_true rfl) dX7_step_114 (fun H locs hP hD hS => ?_)
                  obtain ⟨hP, hD⟩ := pM_jon hP hD
                  refine lv_goto (tgt := 124) hx hb dX7_step_117 (by decide) ?_
                  have e9 : (sMW_jon (sMW_spent vv 4) false) = f_X7_pre vv := (by simp only [f_X7_pre, if_neg c2, if_pos c3, if_neg c4, if_neg c6, if_neg c8, if_neg c9])
                  rw [e9] at hP hD
                  refine lv_aload_n hx hb dX7_step_124 rfl (lv_at hl 0 rfl) ?_
                  obtain ⟨hPc, hDc, hFc⟩ := xM_M hP hD hS hA
                  have hKc := hK.sub (tys' := [(cI, .int)]) [0] rfl
                  refine va_callv (va_runV (As := []) (rest := []) ⟨hx, hb, hml, hown, hts⟩ (k_X7_pass l dC dI cI mO memA dskA rgA inA outA H.size (f_X7_pre vv) hok.2.2.1) (cwV 0 hts gX7_step_X7_pass rfl rfl rfl (by decide +kernel) ⟨Nat.le_of_ble_eq_true rfl, Nat.le_of_ble_eq_true rfl⟩) ⟨fun a U g mk q => by obtain ⟨q0, q1, qP, qK, qD⟩ := q; exact ⟨q0, q1, qP, va_K.moved (u := U) (U := U.calling g mk a) (Vm.Alike.refl U.vm) qK, qD⟩, va_recv hKc hPc (ci := 7) (q0 := 0) rfl rfl, fun U hU hW => ⟨rfl, by rw [hU], by rw [hU]; exact hPc, va_K.moved hW.alike hKc, hDc.weaken (fun _ _ _ _ => trivial)⟩⟩ rfl rfl hl.1 rfl (lv_room (Nat.le_of_ble_eq_true rfl)) dX7_step_125 ⟨Nat.le_of_ble_eq_true rfl, Nat.le_of_ble_eq_true rfl⟩) hS (fun q _ h => hFc q h) hFc (fun u9 t H1 locs ht hvm hw hB hz1 hk1 hS => ?_)
                  subst hw
                  obtain ⟨hP1, hK1, hD1⟩ := hB
                  rw [ht] at hP1
                  obtain ⟨hP, hD⟩ := jM_M hP hD hk1 hFc hP1 hD1
                  clear hPc hDc hKc hFc hz1 hk1 hP1 hK1 hD1 ht hvm
                  generalize H1 = H at hP hS ⊢
                  refine lv_iload_n hx hb dX7_step_128 rfl (lv_at hl 2 rfl) ?_
                  refine lv_aload_n hx hb dX7_step_129 rfl (lv_at hl 0 rfl) ?_
                  refine va_get (D := (dC, dI)) (ci := 7) (v := .int (gMW_spent (f_X7_pass (f_X7_pre vv)))) (C := RX7) (T := TX7) (N := 30) hx hb hts iX7_step_X7 hown hK hP 0 rfl rfl 16 (by decide) (hts _ qX7_step_3) (fun _ h9 => h9) rfl dX7_step_130 ?_
                  refine lv_iadd hx hb dX7_step_133 ?_
                  refine lv_istore_n (lv' := [(2, .int (tt + (gMW_spent (f_X7_pass (f_X7_pre vv))))), (0, .ref mO), (1, .int a1), (3, .int i)]) hx hb dX7_step_134 rfl hl (by decide) rfl (fun ls hl => ?_)
                  refine lv_iinc (v := (i + (1 : Int32))) (lv' := [(3, .int (i + (1 : Int32))), (2, .int (tt + (gMW_spent (f_X7_pass (f_X7_pre vv))))), (0, .ref mO), (1, .int a1)]) hx hb dX7_step_135 hl (k := 3) rfl rfl (by decide) rfl (fun ls hl => ?_)
                  refine lv_goto (tgt := 24) hx hb dX7_step_138 (by decide) ?_
                  exact ih ((j + 1), (i + (1 : Int32)), (tt + (gMW_spent (f_X7_pass (f_X7_pre vv)))), (f_X7_pass (f_X7_pre vv))) _ _ _ (⟨by omega, by omega, by rw [hi]; exact nI_1 j, mit_succ hvp, by rw [← htr]; exact hok.2.2.2, fun z => absurd hb9 z⟩) hP hD hS (lv_sub hl [2, 3, 1, 0] rfl)
              · skip
                refine lv_aload_n hx hb dX7_step_57 rfl (lv_at hl 0 rfl) ?_
                refine lv_bipush (v := 11) hx hb dX7_step_58 (by decide) ?_
                refine va_put (D := (dC, dI)) (ci := 7) (v := .int 11) (ty := .int) (C := RX7) (T := TX7) (N := 30) hx hb hts iX7_step_X7 tyX7 tyX7_ok nmX7 hown hK hP hD hS 0 rfl rfl 16 (by decide) (hts _ qX7_step_3) (fun _ h9 => h9) rfl (by decide +kernel) rfl rfl (Nat.le_of_ble_eq_true rfl) dX7_step_60 (fun H locs hP hD hS => ?_)
                obtain ⟨hP, hD⟩ := pM_spent hP hD
                refine lv_aload_n hx hb dX7_step_63 rfl (lv_at hl 0 rfl) ?_
                refine lv_iconst (v := 0) hx hb dX7_step_64 (by decide) ?_
                refine va_put (D := (dC, dI)) (ci := 7) (v := .int (bI false)) (ty := .boolean) (C := RX7) (T := TX7) (N := 30) hx hb hts iX7_step_X7 tyX7 tyX7_ok nmX7 hown hK hP hD hS 0 rfl rfl 12 (by decide) (hts _ qX7_step_5) (fun _ h9 => h9) rfl (by decide +kernel) (bI_nar false) (bI_fit false) (Nat.le_of_ble_eq_true rfl) dX7_step_65 (fun H locs hP hD hS => ?_)
                obtain ⟨hP, hD⟩ := pM_on hP hD
                refine lv_aload_n hx hb dX7_step_68 rfl (lv_at hl 0 rfl) ?_
                refine lv_iconst (v := 0) hx hb dX7_step_69 (by decide) ?_
                refine va_put (D := (dC, dI)) (ci := 7) (v := .int (bI false)) (ty := .boolean) (C := RX7) (T := TX7) (N := 30) hx hb hts iX7_step_X7 tyX7 tyX7_ok nmX7 hown hK hP hD hS 0 rfl rfl 11 (by decide) (hts _ qX7_step_2) (fun _ h9 => h9) rfl (by decide +kernel) (bI_nar false) (bI_fit false) (Nat.le_of_ble_eq_true rfl) dX7_step_70 (fun H locs hP hD hS => ?_)
                obtain ⟨hP, hD⟩ := pM_hlt hP hD
                refine lv_aload_n hx hb dX7_step_73 rfl (lv_at hl 0 rfl) ?_
                refine lv_aload_n hx hb dX7_step_74 rfl (lv_at hl 0 rfl) ?_
                refine va_get (D := (dC, dI)) (ci := 7) (v := .int (gMW_pc (sMW_hlt (sMW_on (sMW_spent vv 11) false) false))) (C := RX7) (T := TX7) (N := 30) hx hb hts iX7_step_X7 hown hK hP 0 rfl rfl 9 (by decide) (hts _ qX7_step_6) (fun _ h9 => h9) rfl dX7_step_75 ?_
                obtain ⟨hPc, hDc, hFc⟩ := xM_M hP hD hS hA
                have hKc := hK.sub (tys' := [(cI, .int)]) [0] rfl
                refine va_callv (va_runV (As := [.int (gMW_pc (sMW_hlt (sMW_on (sMW_spent vv 11) false) false))]) (rest := []) ⟨hx, hb, hml, hown, hts⟩ (k_X7_push l dC dI cI mO memA dskA rgA inA outA H.size (sMW_hlt (sMW_on (sMW_spent vv 11) false) false) (gMW_pc (sMW_hlt (sMW_on (sMW_spent vv 11) false) false))) (cwV 1 hts gX7_step_X7_push rfl rfl rfl (by decide +kernel) ⟨Nat.le_of_ble_eq_true rfl, Nat.le_of_ble_eq_true rfl⟩) ⟨fun a U g mk q => by obtain ⟨q0, q1, qP, qK, qD⟩ := q; exact ⟨q0, q1, qP, va_K.moved (u := U) (U := U.calling g mk a) (Vm.Alike.refl U.vm) qK, qD⟩, va_recv hKc hPc (ci := 7) (q0 := 0) rfl rfl, fun U hU hW => ⟨rfl, by rw [hU], by rw [hU]; exact hPc, va_K.moved hW.alike hKc, hDc.weaken (fun _ _ _ _ => trivial)⟩⟩ rfl rfl hl.1 rfl (lv_room (Nat.le_of_ble_eq_true rfl)) dX7_step_78 ⟨Nat.le_of_ble_eq_true rfl, Nat.le_of_ble_eq_true rfl⟩) hS (fun q _ h => hFc q h) hFc (fun u9 t H1 locs ht hvm hw hB hz1 hk1 hS => ?_)
                subst hw
                obtain ⟨hP1, hK1, hD1⟩ := hB
                rw [ht] at hP1
                obtain ⟨hP, hD⟩ := jM_M hP hD hk1 hFc hP1 hD1
                clear hPc hDc hKc hFc hz1 hk1 hP1 hK1 hD1 ht hvm
                generalize H1 = H at hP hS ⊢
                refine lv_aload_n hx hb dX7_step_81 rfl (lv_at hl 0 rfl) ?_
                refine lv_bipush (v := 8) hx hb dX7_step_82 (by decide) ?_
                refine lv_aload_n hx hb dX7_step_84 rfl (lv_at hl 0 rfl) ?_
                refine va_get (D := (dC, dI)) (ci := 7) (v := .int (gMW_want (f_X7_push (sMW_hlt (sMW_on (sMW_spent vv 11) false) false) (gMW_pc (sMW_hlt (sMW_on (sMW_spent vv 11) false) false))))) (C := RX7) (T := TX7) (N := 30) hx hb hts iX7_step_X7 hown hK hP 0 rfl rfl 14 (by decide) (hts _ qX7_step_1) (fun _ h9 => h9) rfl dX7_step_85 ?_
                refine lv_imul hx hb dX7_step_88 ?_
                refine va_put (D := (dC, dI)) (ci := 7) (v := .int ((8 : Int32) * (gMW_want (f_X7_push (sMW_hlt (sMW_on (sMW_spent vv 11) false) false) (gMW_pc (sMW_hlt (sMW_on (sMW_spent vv 11) false) false)))))) (ty := .int) (C := RX7) (T := TX7) (N := 30) hx hb hts iX7_step_X7 tyX7 tyX7_ok nmX7 hown hK hP hD hS 0 rfl rfl 9 (by decide) (hts _ qX7_step_6) (fun _ h9 => h9) rfl (by decide +kernel) rfl rfl (Nat.le_of_ble_eq_true rfl) dX7_step_89 (fun H locs hP hD hS => ?_)
                obtain ⟨hP, hD⟩ := pM_pc hP hD
                refine lv_aload_n hx hb dX7_step_92 rfl (lv_at hl 0 rfl) ?_
                refine lv_iconst (v := (-1)) hx hb dX7_step_93 (by decide) ?_
                refine va_put (D := (dC, dI)) (ci := 7) (v := .int (-1)) (ty := .int) (C := RX7) (T := TX7) (N := 30) hx hb hts iX7_step_X7 tyX7 tyX7_ok nmX7 hown hK hP hD hS 0 rfl rfl 14 (by decide) (hts _ qX7_step_1) (fun _ h9 => h9) rfl (by decide +kernel) rfl rfl (Nat.le_of_ble_eq_true rfl) dX7_step_94 (fun H locs hP hD hS => ?_)
                obtain ⟨hP, hD⟩ := pM_want hP hD
                refine lv_goto (tgt := 124) hx hb dX7_step_97 (by decide) ?_
                have e9 : (sMW_want (sMW_pc (f_X7_push (sMW_hlt (sMW_on (sMW_spent vv 11) false) false) (gMW_pc (sMW_hlt (sMW_on (sMW_spent vv 11) false) false))) ((8 : Int32) * (gMW_want (f_X7_push (sMW_hlt (sMW_on (sMW_spent vv 11) false) false) (gMW_pc (sMW_hlt (sMW_on (sMW_spent vv 11) false) false)))))) (-1)) = f_X7_pre vv := (by simp only [f_X7_pre, if_neg c2, if_pos c3, if_neg c4, if_neg c6, if_pos c8])
                rw [e9] at hP hD
                refine lv_aload_n hx hb dX7_step_124 rfl (lv_at hl 0 rfl) ?_
                obtain ⟨hPc, hDc, hFc⟩ := xM_M hP hD hS hA
                have hKc := hK.sub (tys' := [(cI, .int)]) [0] rfl
                refine va_callv (va_runV (As := []) (rest := []) ⟨hx, hb, hml, hown, hts⟩ (k_X7_pass l dC dI cI mO memA dskA rgA inA outA H.size (f_X7_pre vv) hok.2.2.1) (cwV 0 hts gX7_step_X7_pass rfl rfl rfl (by decide +kernel) ⟨Nat.le_of_ble_eq_true rfl, Nat.le_of_ble_eq_true rfl⟩) ⟨fun a U g mk q => by obtain ⟨q0, q1, qP, qK, qD⟩ := q; exact ⟨q0, q1, qP, va_K.moved (u := U) (U := U.calling g mk a) (Vm.Alike.refl U.vm) qK, qD⟩, va_recv hKc hPc (ci := 7) (q0 := 0) rfl rfl, fun U hU hW => ⟨rfl, by rw [hU], by rw [hU]; exact hPc, va_K.moved hW.alike hKc, hDc.weaken (fun _ _ _ _ => trivial)⟩⟩ rfl rfl hl.1 rfl (lv_room (Nat.le_of_ble_eq_true rfl)) dX7_step_125 ⟨Nat.le_of_ble_eq_true rfl, Nat.le_of_ble_eq_true rfl⟩) hS (fun q _ h => hFc q h) hFc (fun u9 t H1 locs ht hvm hw hB hz1 hk1 hS => ?_)
                subst hw
                obtain ⟨hP1, hK1, hD1⟩ := hB
                rw [ht] at hP1
                obtain ⟨hP, hD⟩ := jM_M hP hD hk1 hFc hP1 hD1
                clear hPc hDc hKc hFc hz1 hk1 hP1 hK1 hD1 ht hvm
                generalize H1 = H at hP hS ⊢
                refine lv_iload_n hx hb dX7_step_128 rfl (lv_at hl 2 rfl) ?_
                refine lv_aload_n hx hb dX7_step_129 rfl (lv_at hl 0 rfl) ?_
                refine va_get (D := (dC, dI)) (ci := 7) (v := .int (gMW_spent (f_X7_pass (f_X7_pre vv)))) (C := RX7) (T := TX7) (N := 30) hx hb hts iX7_step_X7 hown hK hP 0 rfl rfl 16 (by decide) (hts _ qX7_step_3) (fun _ h9 => h9) rfl dX7_step_130 ?_
                refine lv_iadd hx hb dX7_step_133 ?_
                refine lv_istore_n (lv' := [(2, .int (tt + (gMW_spent (f_X7_pass (f_X7_pre vv))))), (0, .ref mO), (1, .int a1), (3, .int i)]) hx hb dX7_step_134 rfl hl (by decide) rfl (fun ls hl => ?_)
                refine lv_iinc (v := (i + (1 : Int32))) (lv' := [(3, .int (i + (1 : Int32))), (2, .int (tt + (gMW_spent (f_X7_pass (f_X7_pre vv))))), (0, .ref mO), (1, .int a1)]) hx hb dX7_step_135 hl (k := 3) rfl rfl (by decide) rfl (fun ls hl => ?_)
                refine lv_goto (tgt := 24) hx hb dX7_step_138 (by decide) ?_
                exact ih ((j + 1), (i + (1 : Int32)), (tt + (gMW_spent (f_X7_pass (f_X7_pre vv)))), (f_X7_pass (f_X7_pre vv))) _ _ _ (⟨by omega, by omega, by rw [hi]; exact nI_1 j, mit_succ hvp, by rw [← htr]; exact hok.2.2.2, fun z => absurd hb9 z⟩) hP hD hS (lv_sub hl [2, 3, 1, 0] rfl)
    · exact hloop ((a1).toNatClampNeg + 1) (0, 0, 0, (sMW_thr u (bI (if a1 < (0 : Int32) then true else (if a1 ≤ (3000 : Int32) then false else true : Bool) : Bool)))) _ _ _ (⟨by omega, Nat.zero_le _, rfl, rfl, rfl, fun _ => rfl⟩) hP hD hS (lv_sub hl [2, 3, 1, 0] rfl)
  · skip
    refine lv_if_lt (tgt := 12) hx hb dX7_step_2 (by decide) (fun c10 => ?_) (fun c10 => ?_)
    · skip
      refine lv_iconst (v := 1) hx hb dX7_step_12 (by decide) ?_
      refine lv_goto (tgt := 17) hx hb dX7_step_13 (by decide) ?_
      exact hJ1 true _ _ _ (by simp only [if_pos c10]) hP hS (lv_sub hl [0, 1] rfl)
    · skip
      refine lv_iload_n hx hb dX7_step_5 rfl (lv_at hl 1 rfl) ?_
      refine lv_sipush (v := 3000) hx hb dX7_step_6 (by decide) ?_
      refine jn_b (D := (dC, dI)) (cl := vwCl) (ws := (wM cI mO memA dskA rgA inA outA u)) (A := A) (H0 := s.heap) (nL := 4) 17 (if a1 ≤ (3000 : Int32) then false else true : Bool) [(0, .ref mO), (1, .int a1)] [.ref mO] (fun H locs ls hP hS hl => ?_) (fun hJ11 => ?_)
      · skip
        exact hJ1 (if a1 ≤ (3000 : Int32) then false else true : Bool) _ _ _ (by simp only [if_neg c10]) hP hS (lv_sub hl [0, 1] rfl)
      · skip
        refine lv_icmp_le (tgt := 16) hx hb dX7_step_9 (by decide) (fun c12 => ?_) (fun c12 => ?_)
        · skip
          refine lv_iconst (v := 0) hx hb dX7_step_16 (by decide) ?_
          exact hJ11 false _ _ _ (by simp only [if_pos c12]) hP hS (lv_sub hl [0, 1] rfl)
        · skip
          refine lv_iconst (v := 1) hx hb dX7_step_12 (by decide) ?_
          refine lv_goto (tgt := 17) hx hb dX7_step_13 (by decide) ?_
          exact hJ11 true _ _ _ (by simp only [if_neg c12]) hP hS (lv_sub hl [0, 1] rfl)
