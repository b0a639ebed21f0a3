/-! methods that may throw -/
def tBad : List Cond := [.castable "java/lang/IllegalArgumentException" "java/lang/IllegalArgumentException", .castable "java/lang/IndexOutOfBoundsException" "java/lang/IndexOutOfBoundsException", .declares ⟨"java/lang/RuntimeException", "<init>", "()V"⟩, .declares ⟨"java/lang/Exception", "<init>", "()V"⟩, .declares ⟨"java/lang/Throwable", "<init>", "()V"⟩]
theorem tBad_tab : ∀ w ∈ tBad, w.onTables = true := by decide +kernel
/-- what a throw asks of the heap and the tables -/
def tE (A : Nat → Prop) (U : State) : Prop := vx_Zq Bundle.tN "UNASSIGNED_STACK" Bundle.steD A U U.heap ∧ vx_Zq Bundle.tN "SUPPRESSED_SENTINEL" Bundle.listD A U U.heap ∧ ∀ w ∈ tBad, va_Nw w U
theorem tE.calling {A : Nat → Prop} {U : State} (h : tE A U) (g : JFrame) (mk : MethodId) (a : Array Value) : tE A (U.calling g mk a) :=
  ⟨vx_Zq.moved (u := U) (U := U.calling g mk a) (Vm.Alike.refl U.vm) h.1, vx_Zq.moved (u := U) (U := U.calling g mk a) (Vm.Alike.refl U.vm) h.2.1, fun w hw => va_Nw.same (u := U) (U := U.calling g mk a) (tBad_tab w hw) rfl (h.2.2 w hw)⟩
theorem tE.to {A0 A1 : Nat → Prop} {s U : State} {H : Heap} {locs : List Loc} (h : tE A0 s) (hS : va_S A0 s.heap H locs) (hF : ∀ q, A1 q → A0 q) (hU : U.heap = H) (hW : s.WarmedH U.vm) : tE A1 U := by
  refine ⟨?_, ?_, ?_⟩
  · rw [hU]; exact vx_Zq.moved hW.alike ((h.1.kept hS.2.1).narrow hF)
  · rw [hU]; exact vx_Zq.moved hW.alike ((h.2.1.kept hS.2.1).narrow hF)
  · intro w hw
    have h1 := h.2.2 w hw
    simp only [tBad, List.mem_cons, List.not_mem_nil, or_false] at hw
    rcases hw with rfl | rfl | rfl | rfl | rfl
    · exact va_Nw.warmC hW h1
    · exact va_Nw.warmC hW h1
    · exact va_Nw.warmD hW h1
    · exact va_Nw.warmD hW h1
    · exact va_Nw.warmD hW h1
abbrev wBX (dC : Nat → ClassId) (dI : Nat → Nat → Nat) (tys : List (ClassId × FieldType)) (sz : Nat) (ws : va_W) : State → Prop := fun U => U.heap.size = sz ∧ va_P (dC, dI) vwCl ws U.heap ∧ va_K (dC, dI) vwCl tys U ∧ va_D (fun _ => True) ws ∧ tE (va_A ws sz) U
theorem tx_fin {dC : Nat → ClassId} {dI : Nat → Nat → Nat} {tys : List (ClassId × FieldType)} {ws : va_W} {A : Nat → Prop} {s t : State} {H : Heap} {locs : List Loc} (hP : va_P (dC, dI) vwCl ws H) (hK : va_K (dC, dI) vwCl tys s) (hD : va_D A ws) (hS : va_S A s.heap H locs)
    (ha : s.vm.Alike t.vm) (hz : H.size ≤ t.heap.size) (hs : ∀ q : Nat, q < H.size → t.heap[q]? = H[q]?) : wE dC dI tys A ws t ∧ va_F A s t :=
  ⟨⟨hP.kept (fun k q h => hs q.1 ((hP k q h).lt)), va_K.moved ha hK, hD⟩, Nat.le_trans hS.1 hz, fun q h1 h2 => (hs q (Nat.lt_of_lt_of_le h1 hS.1)).trans (hS.2.1 q h1 h2)⟩

def f_X6_isPlace (a1 : Int32) : Bool := (if a1 < (0 : Int32) then false else (if (4096 : Int32) ≤ a1 then false else true : Bool) : Bool)

set_option maxHeartbeats 4000000 in
set_option maxRecDepth 100000 in
theorem k_X6_isPlace (l : Launch) (dC : Nat → ClassId) (dI : Nat → Nat → Nat) (sz : Nat) (a1 : Int32) : Met l yX6_isPlace wsX6_isPlace ({ frames := 0, cells := 0, slots := 0, locals := 0 }) (va_Pc [.int a1] (wB dC dI [] sz ([] : va_W))) (va_Qi (fun (r : Int32) (u' : Unit) => r = (bI (f_X6_isPlace a1)) ∧ u' = ()) (fun u' => wE dC dI [] (va_A ([] : va_W) sz) ([] : va_W)) (va_A ([] : va_W) sz)) 0 0 (va_A ([] : va_W) sz) := by
  refine Met.ofW (cc := cX6_isPlace) (maxL := 1) (ret := (some .boolean)) (by decide) rfl ?_
  intro p e s m args below meth c s₁ B hml hv
  obtain ⟨rfl, hsz, hP, hK, hD0⟩ := hv
  have hx := B.exec
  have hb := B.bytes
  have hr := B.returns
  have hts := atoms_spec (ws := wsX6_isPlace) B.pre
  have hown : s.vm.findClass RX6 = some m.cls := findClass_of_methodNamed B.named
  have hlocks := B.notSynchronized
  subst hsz
  have hD := hD0.self (sz := s.heap.size)
  generalize hAe : va_A ([] : va_W) s.heap.size = A at hD ⊢
  have hA : ∀ q : Nat, s.heap.size ≤ q → A q := fun q h => by rw [← hAe]; exact Or.inr h
  have hS : va_S A s.heap s.heap [] := va_S.rf
  have hP : va_P (dC, dI) vwCl ([] : va_W) s.heap := hP
  clear hAe hD0
  have hl := lv_entry ([.int a1]) (n := 1) (Nat.le_of_ble_eq_true rfl)
  rw [lg_entry_eq]
  generalize (lg_sl ([.int a1]) ++ List.replicate (1 - (lg_sl ([.int a1])).length) Slot.unset).toArray = ls at hl ⊢
  have hl : lv_has ls 1 [(0, .int a1)] := hl
  refine jn_H hP hS (fun H locs hP hS => ?_)
  refine lv_iload_n hx hb dX6_isPlace_0 rfl (lv_at hl 0 rfl) ?_
  refine jn_b (D := (dC, dI)) (cl := vwCl) (ws := ([] : va_W)) (A := A) (H0 := s.heap) (nL := 1) 16 (if a1 < (0 : Int32) then false else (if (4096 : Int32) ≤ a1 then false else true : Bool) : Bool) [(0, .int a1)] [] (fun H locs ls hP hS hl => ?_) (fun hJ1 => ?_)
  · skip
    exact W.zret (v := (bI (if a1 < (0 : Int32) then false else (if (4096 : Int32) ≤ a1 then false else true : Bool) : Bool))) hx hb hr (bI_nar (if a1 < (0 : Int32) then false else (if (4096 : Int32) ≤ a1 then false else true : Bool) : Bool)) (fun t ht hW => ⟨⟨(bI (if a1 < (0 : Int32) then false else (if (4096 : Int32) ≤ a1 then false else true : Bool) : Bool)), (), rfl, ⟨rfl, rfl⟩, by rw [ht]; exact hP, va_K.moved hW.alike hK, hD⟩, hS.F ht⟩) hS.2.2 dX6_isPlace_16
  · skip
    refine lv_if_lt (tgt := 15) hx hb dX6_isPlace_1 (by decide) (fun c2 => ?_) (fun c2 => ?_)
    · skip
      refine lv_iconst (v := 0) hx hb dX6_isPlace_15 (by decide) ?_
      exact hJ1 false _ _ _ (by simp only [if_pos c2]) hP hS (lv_sub hl [0] rfl)
    · skip
      refine lv_iload_n hx hb dX6_isPlace_4 rfl (lv_at hl 0 rfl) ?_
      refine lv_sipush (v := 4096) hx hb dX6_isPlace_5 (by decide) ?_
      refine jn_b (D := (dC, dI)) (cl := vwCl) (ws := ([] : va_W)) (A := A) (H0 := s.heap) (nL := 1) 16 (if (4096 : Int32) ≤ a1 then false else true : Bool) [(0, .int a1)] [] (fun H locs ls hP hS hl => ?_) (fun hJ3 => ?_)
      · skip
        exact hJ1 (if (4096 : Int32) ≤ a1 then false else true : Bool) _ _ _ (by simp only [if_neg c2]) hP hS (lv_sub hl [0] rfl)
      · skip
        refine lv_icmp_ge (tgt := 15) hx hb dX6_isPlace_8 (by decide) (fun c4 => ?_) (fun c4 => ?_)
        · skip
          refine lv_iconst (v := 0) hx hb dX6_isPlace_15 (by decide) ?_
          exact hJ3 false _ _ _ (by simp only [if_pos c4]) hP hS (lv_sub hl [0] rfl)
        · skip
          refine lv_iconst (v := 1) hx hb dX6_isPlace_11 (by decide) ?_
          refine lv_goto (tgt := 16) hx hb dX6_isPlace_12 (by decide) ?_
          exact hJ3 true _ _ _ (by simp only [if_neg c4]) hP hS (lv_sub hl [0] rfl)

def f_X6_isByte (a1 : Int32) : Bool := (if a1 < (0 : Int32) then false else (if (255 : Int32) < a1 then false else true : Bool) : Bool)

set_option maxHeartbeats 4000000 in
set_option maxRecDepth 100000 in
theorem k_X6_isByte (l : Launch) (dC : Nat → ClassId) (dI : Nat → Nat → Nat) (sz : Nat) (a1 : Int32) : Met l yX6_isByte wsX6_isByte ({ frames := 0, cells := 0, slots := 0, locals := 0 }) (va_Pc [.int a1] (wB dC dI [] sz ([] : va_W))) (va_Qi (fun (r : Int32) (u' : Unit) => r = (bI (f_X6_isByte a1)) ∧ u' = ()) (fun u' => wE dC dI [] (va_A ([] : va_W) sz) ([] : va_W)) (va_A ([] : va_W) sz)) 0 0 (va_A ([] : va_W) sz) := by
  refine Met.ofW (cc := cX6_isByte) (maxL := 1) (ret := (some .boolean)) (by decide) rfl ?_
  intro p e s m args below meth c s₁ B hml hv
  obtain ⟨rfl, hsz, hP, hK, hD0⟩ := hv
  have hx := B.exec
  have hb := B.bytes
  have hr := B.returns
  have hts := atoms_spec (ws := wsX6_isByte) B.pre
  have hown : s.vm.findClass RX6 = some m.cls := findClass_of_methodNamed B.named
  have hlocks := B.notSynchronized
  subst hsz
  have hD := hD0.self (sz := s.heap.size)
  generalize hAe : va_A ([] : va_W) s.heap.size = A at hD ⊢
  have hA : ∀ q : Nat, s.heap.size ≤ q → A q := fun q h => by rw [← hAe]; exact Or.inr h
  have hS : va_S A s.heap s.heap [] := va_S.rf
  have hP : va_P (dC, dI) vwCl ([] : va_W) s.heap := hP
  clear hAe hD0
  have hl := lv_entry ([.int a1]) (n := 1) (Nat.le_of_ble_eq_true rfl)
  rw [lg_entry_eq]
  generalize (lg_sl ([.int a1]) ++ List.replicate (1 - (lg_sl ([.int a1])).length) Slot.unset).toArray = ls at hl ⊢
  have hl : lv_has ls 1 [(0, .int a1)] := hl
  refine jn_H hP hS (fun H locs hP hS => ?_)
  refine lv_iload_n hx hb dX6_isByte_0 rfl (lv_at hl 0 rfl) ?_
  refine jn_b (D := (dC, dI)) (cl := vwCl) (ws := ([] : va_W)) (A := A) (H0 := s.heap) (nL := 1) 16 (if a1 < (0 : Int32) then false else (if (255 : Int32) < a1 then false else true : Bool) : Bool) [(0, .int a1)] [] (fun H locs ls hP hS hl => ?_) (fun hJ1 => ?_)
  · skip
    exact W.zret (v := (bI (if a1 < (0 : Int32) then false else (if (255 : Int32) < a1 then false else true : Bool) : Bool))) hx hb hr (bI_nar (if a1 < (0 : Int32) then false else (if (255 : Int32) < a1 then false else true : Bool) : Bool)) (fun t ht hW => ⟨⟨(bI (if a1 < (0 : Int32) then false else (if (255 : Int32) < a1 then false else true : Bool) : Bool)), (), rfl, ⟨rfl, rfl⟩, by rw [ht]; exact hP, va_K.moved hW.alike hK, hD⟩, hS.F ht⟩) hS.2.2 dX6_isByte_16
  · skip
    refine lv_if_lt (tgt := 15) hx hb dX6_isByte_1 (by decide) (fun c2 => ?_) (fun c2 => ?_)
    · skip
      refine lv_iconst (v := 0) hx hb dX6_isByte_15 (by decide) ?_
      exact hJ1 false _ _ _ (by simp only [if_pos c2]) hP hS (lv_sub hl [0] rfl)
    · skip
      refine lv_iload_n hx hb dX6_isByte_4 rfl (lv_at hl 0 rfl) ?_
      refine lv_sipush (v := 255) hx hb dX6_isByte_5 (by decide) ?_
      refine jn_b (D := (dC, dI)) (cl := vwCl) (ws := ([] : va_W)) (A := A) (H0 := s.heap) (nL := 1) 16 (if (255 : Int32) < a1 then false else true : Bool) [(0, .int a1)] [] (fun H locs ls hP hS hl => ?_) (fun hJ3 => ?_)
      · skip
        exact hJ1 (if (255 : Int32) < a1 then false else true : Bool) _ _ _ (by simp only [if_neg c2]) hP hS (lv_sub hl [0] rfl)
      · skip
        refine lv_icmp_gt (tgt := 15) hx hb dX6_isByte_8 (by decide) (fun c4 => ?_) (fun c4 => ?_)
        · skip
          refine lv_iconst (v := 0) hx hb dX6_isByte_15 (by decide) ?_
          exact hJ3 false _ _ _ (by simp only [if_pos c4]) hP hS (lv_sub hl [0] rfl)
        · skip
          refine lv_iconst (v := 1) hx hb dX6_isByte_11 (by decide) ?_
          refine lv_goto (tgt := 16) hx hb dX6_isByte_12 (by decide) ?_
          exact hJ3 true _ _ _ (by simp only [if_neg c4]) hP hS (lv_sub hl [0] rfl)

def f_X6_written (u : PW) : Int32 := (f_X1_writtenCount (gPW_C u))
theorem qX6_written_0 : Cond.fieldLink RX6 22 "DiskMachine" "console" "LDiskMachine$Console;" ∈ wsX6_written := by decide +kernel
theorem iX6_written_X6 : ∀ w ∈ wsX60, w ∈ wsX6_written := by decide +kernel
set_option maxHeartbeats 4000000 in
set_option maxRecDepth 100000 in
theorem k_X6_written (l : Launch) (dC : Nat → ClassId) (dI : Nat → Nat → Nat) (cI : ClassId) (xO pO mS mA dS dA cO iA oA kO fO aO rA : Nat) (sz : Nat) (u : PW) : Met l yX6_written wsX6_written ({ frames := 1, cells := 0, slots := 0, locals := 20 }) (va_Pc [.ref xO] (wB dC dI [(cI, .int)] sz (wX cI xO pO mS mA dS dA cO iA oA kO fO aO rA u))) (va_Qi (fun (r : Int32) (u' : PW) => r = (f_X6_written u) ∧ u' = u) (fun u' => wE dC dI [(cI, .int)] (va_A (wX cI xO pO mS mA dS dA cO iA oA kO fO aO rA u) sz) (wX cI xO pO mS mA dS dA cO iA oA kO fO aO rA u')) (va_A (wX cI xO pO mS mA dS dA cO iA oA kO fO aO rA u) sz)) 0 0 (va_A (wX cI xO pO mS mA dS dA cO iA oA kO fO aO rA u) sz) := by
  refine Met.ofW (cc := cX6_written) (maxL := 1) (ret := (some .int)) (by decide) rfl ?_
  intro p e s m args below meth c s₁ B hml hv
  obtain ⟨rfl, hsz, hP, hK, hD0⟩ := hv
  have hx := B.exec
  have hb := B.bytes
  have hr := B.returns
  have hts := atoms_spec (ws := wsX6_written) B.pre
  have hown : s.vm.findClass RX6 = some m.cls := findClass_of_methodNamed B.named
  have hlocks := B.notSynchronized
  subst hsz
  have hD := hD0.self (sz := s.heap.size)
  generalize hAe : va_A (wX cI xO pO mS mA dS dA cO iA oA kO fO aO rA u) s.heap.size = A at hD ⊢
  have hA : ∀ q : Nat, s.heap.size ≤ q → A q := fun q h => by rw [← hAe]; exact Or.inr h
  have hS : va_S A s.heap s.heap [] := va_S.rf
  have hP : va_P (dC, dI) vwCl (wX cI xO pO mS mA dS dA cO iA oA kO fO aO rA u) s.heap := hP
  clear hAe hD0
  have hl := lv_entry ([.ref xO]) (n := 1) (Nat.le_of_ble_eq_true rfl)
  rw [lg_entry_eq]
  generalize (lg_sl ([.ref xO]) ++ List.replicate (1 - (lg_sl ([.ref xO])).length) Slot.unset).toArray = ls at hl ⊢
  have hl : lv_has ls 1 [(0, .ref xO)] := hl
  refine jn_H hP hS (fun H locs hP hS => ?_)
  refine lv_aload_n hx hb dX6_written_0 rfl (lv_at hl 0 rfl) ?_
  refine va_get (D := (dC, dI)) (ci := 6) (v := .ref cO) (C := RX6) (T := TX6) (N := 5) hx hb hts iX6_written_X6 hown hK hP 0 rfl rfl 2 (by decide) (hts _ qX6_written_0) (fun _ h9 => h9) rfl dX6_written_1 ?_
  obtain ⟨hPc, hDc, hFc⟩ := xX_C hP hD hS hA
  have hKc := hK.sub (tys' := [(cI, .int)]) [0] rfl
  refine va_calli (va_runV (As := []) (rest := []) ⟨hx, hb, hml, hown, hts⟩ (k_X1_writtenCount l dC dI cI cO iA oA H.size (gPW_C u)) (cwV 0 hts gX6_written_X1_writtenCount rfl rfl rfl (by decide +kernel) ⟨Nat.le_of_ble_eq_true rfl, Nat.le_of_ble_eq_true rfl⟩) ⟨fun a U g mk q => by obtain ⟨q0, q1, qP, qK, qD⟩ := q; exact ⟨q0, q1, qP, va_K.moved (u := U) (U := U.calling g mk a) (Vm.Alike.refl U.vm) qK, qD⟩, va_recv hKc hPc (ci := 1) (q0 := 0) rfl rfl, fun U hU hW => ⟨rfl, by rw [hU], by rw [hU]; exact hPc, va_K.moved hW.alike hKc, hDc.weaken (fun _ _ _ _ => trivial)⟩⟩ rfl rfl hl.1 rfl (lv_room (Nat.le_of_ble_eq_true rfl)) dX6_written_4 ⟨Nat.le_of_ble_eq_true rfl, Nat.le_of_ble_eq_true rfl⟩) hS (fun q _ h => hFc q h) hFc (fun r9 u9 t H1 locs ht hvm hw hB hz1 hk1 hS => ?_)
  obtain ⟨hw1, hw2⟩ := hw
  have hw2 := hw2.symm
  subst hw1 hw2
  obtain ⟨hP1, hK1, hD1⟩ := hB
  rw [ht] at hP1
  obtain ⟨hP, hD⟩ := jX_C0 hP hD hk1 hFc hP1 hD1
  clear hPc hDc hKc hFc hz1 hk1 hP1 hK1 hD1 ht hvm
  generalize H1 = H at hP hS ⊢
  exact W.iret (v := (f_X1_writtenCount (gPW_C u))) hx hb hr (fun t ht hW => ⟨⟨(f_X1_writtenCount (gPW_C u)), u, rfl, ⟨rfl, rfl⟩, by rw [ht]; exact hP, va_K.moved hW.alike hK, hD⟩, hS.F ht⟩) hS.2.2 dX6_written_7

def f_X6_cycles (u : PW) : Int64 := (f_X4_cyclesDone u)
theorem qX6_cycles_0 : Cond.fieldLink RX6 40 "DiskMachine" "processor" "LDiskMachine$Processor;" ∈ wsX6_cycles := by decide +kernel
theorem iX6_cycles_X6 : ∀ w ∈ wsX60, w ∈ wsX6_cycles := by decide +kernel
set_option maxHeartbeats 4000000 in
set_option maxRecDepth 100000 in
theorem k_X6_cycles (l : Launch) (dC : Nat → ClassId) (dI : Nat → Nat → Nat) (cI : ClassId) (xO pO mS mA dS dA cO iA oA kO fO aO rA : Nat) (sz : Nat) (u : PW) : Met l yX6_cycles wsX6_cycles ({ frames := 1, cells := 0, slots := 0, locals := 20 }) (va_Pc [.ref xO] (wB dC dI [(cI, .int)] sz (wX cI xO pO mS mA dS dA cO iA oA kO fO aO rA u))) (va_Ql (fun (r : Int64) (u' : PW) => r = (f_X6_cycles u) ∧ u' = u) (fun u' => wE dC dI [(cI, .int)] (va_A (wX cI xO pO mS mA dS dA cO iA oA kO fO aO rA u) sz) (wX cI xO pO mS mA dS dA cO iA oA kO fO aO rA u')) (va_A (wX cI xO pO mS mA dS dA cO iA oA kO fO aO rA u) sz)) 0 0 (va_A (wX cI xO pO mS mA dS dA cO iA oA kO fO aO rA u) sz) := by
  refine Met.ofW (cc := cX6_cycles) (maxL := 1) (ret := (some .long)) (by decide) rfl ?_
  intro p e s m args below meth c s₁ B hml hv
  obtain ⟨rfl, hsz, hP, hK, hD0⟩ := hv
  have hx := B.exec
  have hb := B.bytes
  have hr := B.returns
  have hts := atoms_spec (ws := wsX6_cycles) B.pre
  have hown : s.vm.findClass RX6 = some m.cls := findClass_of_methodNamed B.named
  have hlocks := B.notSynchronized
  subst hsz
  have hD := hD0.self (sz := s.heap.size)
  generalize hAe : va_A (wX cI xO pO mS mA dS dA cO iA oA kO fO aO rA u) s.heap.size = A at hD ⊢
  have hA : ∀ q : Nat, s.heap.size ≤ q → A q := fun q h => by rw [← hAe]; exact Or.inr h
  have hS : va_S A s.heap s.heap [] := va_S.rf
  have hP : va_P (dC, dI) vwCl (wX cI xO pO mS mA dS dA cO iA oA kO fO aO rA u) s.heap := hP
  clear hAe hD0
  have hl := lv_entry ([.ref xO]) (n := 1) (Nat.le_of_ble_eq_true rfl)
  rw [lg_entry_eq]
  generalize (lg_sl ([.ref xO]) ++ List.replicate (1 - (lg_sl ([.ref xO])).length) Slot.unset).toArray = ls at hl ⊢
  have hl : lv_has ls 1 [(0, .ref xO)] := hl
  refine jn_H hP hS (fun H locs hP hS => ?_)
  refine lv_aload_n hx hb dX6_cycles_0 rfl (lv_at hl 0 rfl) ?_
  refine va_get (D := (dC, dI)) (ci := 6) (v := .ref pO) (C := RX6) (T := TX6) (N := 5) hx hb hts iX6_cycles_X6 hown hK hP 0 rfl rfl 4 (by decide) (hts _ qX6_cycles_0) (fun _ h9 => h9) rfl dX6_cycles_1 ?_
  obtain ⟨hPc, hDc, hFc⟩ := xX_P hP hD hS hA
  have hKc := hK.sub (tys' := [(cI, .int)]) [0] rfl
  refine va_calll (va_runV (As := []) (rest := []) ⟨hx, hb, hml, hown, hts⟩ (k_X4_cyclesDone l dC dI cI pO mS mA dS dA cO iA oA kO fO aO rA H.size u) (cwV 0 hts gX6_cycles_X4_cyclesDone rfl rfl rfl (by decide +kernel) ⟨Nat.le_of_ble_eq_true rfl, Nat.le_of_ble_eq_true rfl⟩) ⟨fun a U g mk q => by obtain ⟨q0, q1, qP, qK, qD⟩ := q; exact ⟨q0, q1, qP, va_K.moved (u := U) (U := U.calling g mk a) (Vm.Alike.refl U.vm) qK, qD⟩, va_recv hKc hPc (ci := 4) (q0 := 0) rfl rfl, fun U hU hW => ⟨rfl, by rw [hU], by rw [hU]; exact hPc, va_K.moved hW.alike hKc, hDc.weaken (fun _ _ _ _ => trivial)⟩⟩ rfl rfl hl.1 rfl (lv_room (Nat.le_of_ble_eq_true rfl)) dX6_cycles_4 ⟨Nat.le_of_ble_eq_true rfl, Nat.le_of_ble_eq_true rfl⟩) hS (fun q _ h => hFc q h) hFc (fun r9 u9 t H1 locs ht hvm hw hB hz1 hk1 hS => ?_)
  obtain ⟨hw1, hw2⟩ := hw
  have hw2 := hw2.symm
  subst hw1 hw2
  obtain ⟨hP1, hK1, hD1⟩ := hB
  rw [ht] at hP1
  obtain ⟨hP, hD⟩ := jX_P0 hP hD hk1 hFc hP1 hD1
  clear hPc hDc hKc hFc hz1 hk1 hP1 hK1 hD1 ht hvm
  generalize H1 = H at hP hS ⊢
  exact W.lret (v := (f_X4_cyclesDone u)) hx hb hr (fun t ht hW => ⟨⟨(f_X4_cyclesDone u), u, rfl, ⟨rfl, rfl⟩, by rw [ht]; exact hP, va_K.moved hW.alike hK, hD⟩, hS.F ht⟩) hS.2.2 dX6_cycles_7

def f_X6_sum (u : PW) : Int32 := (f_X5_weighedTotal (gPW_m u))
theorem qX6_sum_0 : Cond.fieldLink RX6 10 "DiskMachine" "memory" "LDiskMachine$Store;" ∈ wsX6_sum := by decide +kernel
theorem iX6_sum_X6 : ∀ w ∈ wsX60, w ∈ wsX6_sum := by decide +kernel
set_option maxHeartbeats 4000000 in
set_option maxRecDepth 100000 in
theorem k_X6_sum (l : Launch) (dC : Nat → ClassId) (dI : Nat → Nat → Nat) (cI : ClassId) (xO pO mS mA dS dA cO iA oA kO fO aO rA : Nat) (sz : Nat) (u : PW) : Met l yX6_sum wsX6_sum ({ frames := 1, cells := 0, slots := 0, locals := 22 }) (va_Pc [.ref xO] (wB dC dI [(cI, .int)] sz (wX cI xO pO mS mA dS dA cO iA oA kO fO aO rA u))) (va_Qi (fun (r : Int32) (u' : PW) => r = (f_X6_sum u) ∧ u' = u) (fun u' => wE dC dI [(cI, .int)] (va_A (wX cI xO pO mS mA dS dA cO iA oA kO fO aO rA u) sz) (wX cI xO pO mS mA dS dA cO iA oA kO fO aO rA u')) (va_A (wX cI xO pO mS mA dS dA cO iA oA kO fO aO rA u) sz)) 0 0 (va_A (wX cI xO pO mS mA dS dA cO iA oA kO fO aO rA u) sz) := by
  refine Met.ofW (cc := cX6_sum) (maxL := 1) (ret := (some .int)) (by decide) rfl ?_
  intro p e s m args below meth c s₁ B hml hv
  obtain ⟨rfl, hsz, hP, hK, hD0⟩ := hv
  have hx := B.exec
  have hb := B.bytes
  have hr := B.returns
  have hts := atoms_spec (ws := wsX6_sum) B.pre
  have hown : s.vm.findClass RX6 = some m.cls := findClass_of_methodNamed B.named
  have hlocks := B.notSynchronized
  subst hsz
  have hD := hD0.self (sz := s.heap.size)
  generalize hAe : va_A (wX cI xO pO mS mA dS dA cO iA oA kO fO aO rA u) s.heap.size = A at hD ⊢
  have hA : ∀ q : Nat, s.heap.size ≤ q → A q := fun q h => by rw [← hAe]; exact Or.inr h
  have hS : va_S A s.heap s.heap [] := va_S.rf
  have hP : va_P (dC, dI) vwCl (wX cI xO pO mS mA dS dA cO iA oA kO fO aO rA u) s.heap := hP
  clear hAe hD0
  have hl := lv_entry ([.ref xO]) (n := 1) (Nat.le_of_ble_eq_true rfl)
  rw [lg_entry_eq]
  generalize (lg_sl ([.ref xO]) ++ List.replicate (1 - (lg_sl ([.ref xO])).length) Slot.unset).toArray = ls at hl ⊢
  have hl : lv_has ls 1 [(0, .ref xO)] := hl
  refine jn_H hP hS (fun H locs hP hS => ?_)
  refine lv_aload_n hx hb dX6_sum_0 rfl (lv_at hl 0 rfl) ?_
  refine va_get (D := (dC, dI)) (ci := 6) (v := .ref mS) (C := RX6) (T := TX6) (N := 5) hx hb hts iX6_sum_X6 hown hK hP 0 rfl rfl 0 (by decide) (hts _ qX6_sum_0) (fun _ h9 => h9) rfl dX6_sum_1 ?_
  obtain ⟨hPc, hDc, hFc⟩ := xX_S_mS hP hD hS hA
  have hKc := hK.sub (tys' := [(cI, .int)]) [0] rfl
  refine va_calli (va_runV (As := []) (rest := []) ⟨hx, hb, hml, hown, hts⟩ (k_X5_weighedTotal l dC dI cI mS mA H.size (gPW_m u)) (cwV 0 hts gX6_sum_X5_weighedTotal rfl rfl rfl (by decide +kernel) ⟨Nat.le_of_ble_eq_true rfl, Nat.le_of_ble_eq_true rfl⟩) ⟨fun a U g mk q => by obtain ⟨q0, q1, qP, qK, qD⟩ := q; exact ⟨q0, q1, qP, va_K.moved (u := U) (U := U.calling g mk a) (Vm.Alike.refl U.vm) qK, qD⟩, va_recv hKc hPc (ci := 5) (q0 := 0) rfl rfl, fun U hU hW => ⟨rfl, by rw [hU], by rw [hU]; exact hPc, va_K.moved hW.alike hKc, hDc.weaken (fun _ _ _ _ => trivial)⟩⟩ rfl rfl hl.1 rfl (lv_room (Nat.le_of_ble_eq_true rfl)) dX6_sum_4 ⟨Nat.le_of_ble_eq_true rfl, Nat.le_of_ble_eq_true rfl⟩) hS (fun q _ h => hFc q h) hFc (fun r9 u9 t H1 locs ht hvm hw hB hz1 hk1 hS => ?_)
  obtain ⟨hw1, hw2⟩ := hw
  have hw2 := hw2.symm
  subst hw1 hw2
  obtain ⟨hP1, hK1, hD1⟩ := hB
  rw [ht] at hP1
  obtain ⟨hP, hD⟩ := jX_S_mS0 hP hD hk1 hFc hP1 hD1
  clear hPc hDc hKc hFc hz1 hk1 hP1 hK1 hD1 ht hvm
  generalize H1 = H at hP hS ⊢
  exact W.iret (v := (f_X5_weighedTotal (gPW_m u))) hx hb hr (fun t ht hW => ⟨⟨(f_X5_weighedTotal (gPW_m u)), u, rfl, ⟨rfl, rfl⟩, by rw [ht]; exact hP, va_K.moved hW.alike hK, hD⟩, hS.F ht⟩) hS.2.2 dX6_sum_7
