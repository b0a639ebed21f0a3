/-- n turns of the class: what they took, and where they led -/
def cit : Nat → PW → Int32 × PW
  | 0, u => (0, u)
  | n + 1, u => ((cit n u).1 + (f_X4_turn (cit n u).2).1, (f_X4_turn (cit n u).2).2)
theorem cit_succ {tt : Int32} {vv u : PW} {j : Nat} (h : (tt, vv) = cit j u) : (tt + (f_X4_turn vv).1, (f_X4_turn vv).2) = cit (j + 1) u := by
  show _ = ((cit j u).1 + (f_X4_turn (cit j u).2).1, (f_X4_turn (cit j u).2).2)
  rw [← h]
def f_X6_step (u : PW) (a1 : Int32) : Option (Int32 × PW) := 
  if a1 < (0 : Int32) then none
  else if a1 ≤ (3000 : Int32) then some (cit (a1).toNatClampNeg u)
  else none
theorem qX6_step_0 : Cond.classLink RX6 51 "java/lang/IllegalArgumentException" ∈ wsX6_step := by decide +kernel
theorem qX6_step_1 : Cond.initialized "java/lang/IllegalArgumentException" ∈ wsX6_step := by decide +kernel
theorem qX6_step_2 : Cond.fieldLink RX6 40 "DiskMachine" "processor" "LDiskMachine$Processor;" ∈ wsX6_step := by decide +kernel
theorem iX6_step_X6 : ∀ w ∈ wsX60, w ∈ wsX6_step := by decide +kernel
set_option maxHeartbeats 4000000 in
set_option maxRecDepth 100000 in
theorem k_X6_step (l : Launch) (hl0 : l.stackTraces = false) (dC : Nat → ClassId) (dI : Nat → Nat → Nat) (cI : ClassId) (xO pO mS mA dS dA cO iA oA kO fO aO rA : Nat) (sz : Nat) (u : PW) (a1 : Int32) (hG : ∀ z, z < (a1).toNatClampNeg → ∃ i j : Nat, i < 64 ∧ j ≤ 64 ∧ gCS_fst (gPW_C (cit z u).2) = nI i ∧ gCS_cnt (gPW_C (cit z u).2) = nI j) : vx_Met l yX6_step wsX6_step ({ frames := 7, cells := 1, slots := 6, locals := 156 }) (va_Pc [.ref xO, .int a1] (wBX dC dI [(cI, .int)] sz (wX cI xO pO mS mA dS dA cO iA oA kO fO aO rA u))) (va_Qi (fun (r : Int32) (u' : PW) => some (r, u') = (f_X6_step u a1)) (fun u' => wE dC dI [(cI, .int)] (va_A (wX cI xO pO mS mA dS dA cO iA oA kO fO aO rA u) sz) (wX cI xO pO mS mA dS dA cO iA oA kO fO aO rA u')) (va_A (wX cI xO pO mS mA dS dA cO iA oA kO fO aO rA u) sz)) (vx_X (fun u' : PW => (f_X6_step u a1) = none ∧ u' = u) (fun (E : String) (u' : PW) (t : State) => E = "java/lang/IllegalArgumentException" ∧ wE dC dI [(cI, .int)] (va_A (wX cI xO pO mS mA dS dA cO iA oA kO fO aO rA u) sz) (wX cI xO pO mS mA dS dA cO iA oA kO fO aO rA u') t) (va_A (wX cI xO pO mS mA dS dA cO iA oA kO fO aO rA u) sz)) 1 6 (va_A (wX cI xO pO mS mA dS dA cO iA oA kO fO aO rA u) sz) := by
  refine vx_ofW (cc := cX6_step) (maxL := 4) (ret := (some .int)) (by decide) rfl ?_
  intro p e s m args below meth c s₁ B hml htab hv
  obtain ⟨rfl, hsz, hP, hK, hD0, hT⟩ := hv
  have hx := B.exec
  have hb := B.bytes
  have hr := B.returns
  have hts := atoms_spec (ws := wsX6_step) B.pre
  have hown : s.vm.findClass RX6 = some m.cls := findClass_of_methodNamed B.named
  have hlocks := B.notSynchronized
  subst hsz
  have hD := hD0.self (sz := s.heap.size)
  generalize hAe : va_A (wX cI xO pO mS mA dS dA cO iA oA kO fO aO rA u) s.heap.size = A at hD hT ⊢
  have hA : ∀ q : Nat, s.heap.size ≤ q → A q := fun q h => by rw [← hAe]; exact Or.inr h
  have hS : va_S A s.heap s.heap [] := va_S.rf
  have hP : va_P (dC, dI) vwCl (wX cI xO pO mS mA dS dA cO iA oA kO fO aO rA u) s.heap := hP
  clear hAe hD0
  have hl := lv_entry ([.ref xO, .int a1]) (n := 4) (Nat.le_of_ble_eq_true rfl)
  rw [lg_entry_eq]
  generalize (lg_sl ([.ref xO, .int a1]) ++ List.replicate (4 - (lg_sl ([.ref xO, .int a1])).length) Slot.unset).toArray = ls at hl ⊢
  have hl : lv_has ls 4 [(0, .ref xO), (1, .int a1)] := hl
  refine jn_H hP hS (fun H locs hP hS => ?_)
  refine lv_iload_n hx hb dX6_step_0 rfl (lv_at hl 1 rfl) ?_
  refine lv_if_lt (tgt := 11) hx hb dX6_step_1 (by decide) (fun c1 => ?_) (fun c1 => ?_)
  · skip
    exact vx_throw0 (own := RX6) (cls := "java/lang/IllegalArgumentException") (names := ["java/lang/RuntimeException", "java/lang/Exception"]) (A := A) hx hb hl0 hown (by decide +kernel) (by decide +kernel) (hts _ qX6_step_0) (hts _ qX6_step_1) (vx_hat (L := vx_at0 RX6 53 "java/lang/IllegalArgumentException" ["java/lang/RuntimeException", "java/lang/Exception"]) (B := tBad) (fun w hw => hts w (List.mem_cons_of_mem _ (List.mem_append_right _ hw))) (by decide +kernel) (fun w hw => va_Nw.use (tBad_tab w hw) (hT.2.2 w hw))) (by decide +kernel) hT.1 hT.2.1 hS (hl.1.trans hml.symm) dX6_step_11 dX6_step_14 dX6_step_15 dX6_step_18 (fun x hx9 => (htab x hx9).elim) (Nat.le_of_ble_eq_true rfl) (Nat.le_of_ble_eq_true rfl) (Nat.le_of_ble_eq_true rfl) (Nat.le_of_ble_eq_true rfl) hlocks (fun t ha hz hs => ⟨u, ⟨(by simp only [f_X6_step, if_pos c1]), rfl⟩, ⟨rfl, (tx_fin hP hK hD hS ha hz hs).1⟩, (tx_fin hP hK hD hS ha hz hs).2⟩) hS.2.2 (Nat.le_of_ble_eq_true rfl) (Nat.le_of_ble_eq_true rfl)
  · skip
    refine lv_iload_n hx hb dX6_step_4 rfl (lv_at hl 1 rfl) ?_
    refine lv_sipush (v := 3000) hx hb dX6_step_5 (by decide) ?_
    refine lv_icmp_le (tgt := 19) hx hb dX6_step_8 (by decide) (fun c2 => ?_) (fun c2 => ?_)
    · skip
      refine lv_iconst (v := 0) hx hb dX6_step_19 (by decide) ?_
      refine lv_istore_n (lv' := [(2, .int 0), (0, .ref xO), (1, .int a1)]) hx hb dX6_step_20 rfl hl (by decide) rfl (fun ls hl => ?_)
      refine lv_iconst (v := 0) hx hb dX6_step_21 (by decide) ?_
      refine lv_istore_n (lv' := [(3, .int 0), (2, .int 0), (0, .ref xO), (1, .int a1)]) hx hb dX6_step_22 rfl hl (by decide) rfl (fun ls hl => ?_)
      refine jn_lp (D := (dC, dI)) (cl := vwCl) (A := A) (H0 := s.heap) (nL := 4) (σ := Nat × Int32 × Int32 × PW) 23 (fun x => [(0, .ref xO), (1, .int a1), (2, .int x.2.2.1), (3, .int x.2.1)]) (fun x => (wX cI xO pO mS mA dS dA cO iA oA kO fO aO rA x.2.2.2)) (fun n x => x.1 + n = (a1).toNatClampNeg + 1 ∧ x.1 ≤ (a1).toNatClampNeg ∧ x.2.1 = nI x.1 ∧ (x.2.2.1, x.2.2.2) = cit x.1 u) (fun x h => ?_) (fun n ih x H locs ls hI hP hD hS hl => ?_) (fun hloop => ?_)
      · obtain ⟨j, i, tt, vv⟩ := x
        try dsimp only at h
        obtain ⟨h1, h2, _⟩ := h
        omega
      · obtain ⟨j, i, tt, vv⟩ := x
        try dsimp only at hI
        obtain ⟨hn, hj, hi, hvp⟩ := hI
        have hvt : vv = (cit j u).2 := congrArg Prod.snd hvp
        have hP : va_P (dC, dI) vwCl (wX cI xO pO mS mA dS dA cO iA oA kO fO aO rA vv) H := hP
        have hD : va_D A (wX cI xO pO mS mA dS dA cO iA oA kO fO aO rA vv) := hD
        have hl : lv_has ls 4 [(0, .ref xO), (1, .int a1), (2, .int tt), (3, .int i)] := hl
        refine lv_iload_n hx hb dX6_step_23 rfl (lv_at hl 3 rfl) ?_
        refine lv_iload_n hx hb dX6_step_24 rfl (lv_at hl 1 rfl) ?_
        refine lv_icmp_ge (tgt := 44) hx hb dX6_step_25 (by decide) (fun c3 => ?_) (fun c3 => ?_)
        · skip
          have q9 := c3
          rw [hi] at q9
          obtain rfl := ge_nI hj q9
          refine lv_iload_n hx hb dX6_step_44 rfl (lv_at hl 2 rfl) ?_
          refine vx_ret ?_
          refine W.widen (k := 1) (n := 6) (Nat.le_of_ble_eq_true rfl) (Nat.le_of_ble_eq_true rfl) ?_
          exact W.iret (v := tt) hx hb hr (fun t ht hW => ⟨⟨tt, vv, rfl, (by simp only [f_X6_step, if_neg c1, if_pos c2]; rw [hvp]), by rw [ht]; exact hP, va_K.moved hW.alike hK, hD⟩, hS.F ht⟩) hS.2.2 dX6_step_45
        · skip
          have hjN : j < (a1).toNatClampNeg := by have q9 := c3; rw [hi] at q9; exact Nat.lt_of_not_le (fun z => q9 (le_nI z hj))
          have hok := hG j hjN
          rw [← hvt] at hok
          refine lv_iload_n hx hb dX6_step_28 rfl (lv_at hl 2 rfl) ?_
          refine lv_aload_n hx hb dX6_step_29 rfl (lv_at hl 0 rfl) ?_
          refine va_get (D := (dC, dI)) (ci := 6) (v := .ref pO) (C := RX6) (T := TX6) (N := 5) hx hb hts iX6_step_X6 hown hK hP 0 rfl rfl 4 (by decide) (hts _ qX6_step_2) (fun _ h9 => h9) rfl dX6_step_30 ?_
          obtain ⟨hPc, hDc, hFc⟩ := xX_P hP hD hS hA
          have hKc := hK.sub (tys' := [(cI, .int)]) [0] rfl
          refine va_calli (va_runV (As := []) (rest := [.int tt]) ⟨hx, hb, hml, hown, hts⟩ (k_X4_turn l dC dI cI pO mS mA dS dA cO iA oA kO fO aO rA H.size vv hok) (cwV 0 hts gX6_step_X4_turn rfl rfl rfl (by decide +kernel) ⟨Nat.le_of_ble_eq_true rfl, Nat.le_of_ble_eq_true rfl⟩) ⟨fun a U g mk q => by obtain ⟨q0, q1, qP, qK, qD⟩ := q; exact ⟨q0, q1, qP, va_K.moved (u := U) (U := U.calling g mk a) (Vm.Alike.refl U.vm) qK, qD⟩, va_recv hKc hPc (ci := 4) (q0 := 0) rfl rfl, fun U hU hW => ⟨rfl, by rw [hU], by rw [hU]; exact hPc, va_K.moved hW.alike hKc, hDc.weaken (fun _ _ _ _ => trivial)⟩⟩ rfl rfl hl.1 rfl (lv_room (Nat.le_of_ble_eq_true rfl)) dX6_step_33 ⟨Nat.le_of_ble_eq_true rfl, Nat.le_of_ble_eq_true rfl⟩) hS (fun q _ h => hFc q h) hFc (fun r9 u9 t H1 locs ht hvm hw hB hz1 hk1 hS => ?_)
          obtain ⟨rfl, rfl⟩ := hw
          obtain ⟨hP1, hK1, hD1⟩ := hB
          rw [ht] at hP1
          obtain ⟨hP, hD⟩ := jX_P hP hD hk1 hFc hP1 hD1
          clear hPc hDc hKc hFc hz1 hk1 hP1 hK1 hD1 ht hvm
          generalize H1 = H at hP hS ⊢
          refine lv_iadd hx hb dX6_step_36 ?_
          refine lv_istore_n (lv' := [(2, .int (tt + (f_X4_turn vv).1)), (0, .ref xO), (1, .int a1), (3, .int i)]) hx hb dX6_step_37 rfl hl (by decide) rfl (fun ls hl => ?_)
          refine lv_iinc (v := (i + (1 : Int32))) (lv' := [(3, .int (i + (1 : Int32))), (2, .int (tt + (f_X4_turn vv).1)), (0, .ref xO), (1, .int a1)]) hx hb dX6_step_38 hl (k := 3) rfl rfl (by decide) rfl (fun ls hl => ?_)
          refine lv_goto (tgt := 23) hx hb dX6_step_41 (by decide) ?_
          exact ih ((j + 1), (i + (1 : Int32)), (tt + (f_X4_turn vv).1), (f_X4_turn vv).2) _ _ _ (⟨by omega, by omega, by rw [hi]; exact nI_1 j, cit_succ hvp⟩) hP hD hS (lv_sub hl [2, 3, 1, 0] rfl)
      · exact hloop ((a1).toNatClampNeg + 1) (0, 0, 0, u) _ _ _ (⟨by omega, Nat.zero_le _, rfl, rfl⟩) hP hD hS (lv_sub hl [2, 3, 1, 0] rfl)
    · skip
      exact vx_throw0 (own := RX6) (cls := "java/lang/IllegalArgumentException") (names := ["java/lang/RuntimeException", "java/lang/Exception"]) (A := A) hx hb hl0 hown (by decide +kernel) (by decide +kernel) (hts _ qX6_step_0) (hts _ qX6_step_1) (vx_hat (L := vx_at0 RX6 53 "java/lang/IllegalArgumentException" ["java/lang/RuntimeException", "java/lang/Exception"]) (B := tBad) (fun w hw => hts w (List.mem_cons_of_mem _ (List.mem_append_right _ hw))) (by decide +kernel) (fun w hw => va_Nw.use (tBad_tab w hw) (hT.2.2 w hw))) (by decide +kernel) hT.1 hT.2.1 hS (hl.1.trans hml.symm) dX6_step_11 dX6_step_14 dX6_step_15 dX6_step_18 (fun x hx9 => (htab x hx9).elim) (Nat.le_of_ble_eq_true rfl) (Nat.le_of_ble_eq_true rfl) (Nat.le_of_ble_eq_true rfl) (Nat.le_of_ble_eq_true rfl) hlocks (fun t ha hz hs => ⟨u, ⟨(by simp only [f_X6_step, if_neg c1, if_neg c2]), rfl⟩, ⟨rfl, (tx_fin hP hK hD hS ha hz hs).1⟩, (tx_fin hP hK hD hS ha hz hs).2⟩) hS.2.2 (Nat.le_of_ble_eq_true rfl) (Nat.le_of_ble_eq_true rfl)
