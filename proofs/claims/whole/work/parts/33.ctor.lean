/-! constructors -/
def nestW : List Cond := [.methodLinkNest RX6 9 yX5_init "DiskMachine", .methodLinkNest RX6 21 yX1_init "DiskMachine", .methodLinkNest RX4 11 yX3_init "DiskMachine"]
def nE (U : State) : Prop := ∀ w ∈ nestW, va_Nw w U
theorem nestW_tab : ∀ w ∈ nestW, w.onTables = true := by decide +kernel
theorem nE.calling {U : State} (h : nE U) (g : JFrame) (mk : MethodId) (a : Array Value) : nE (U.calling g mk a) := fun w hw => va_Nw.same (u := U) (U := U.calling g mk a) (nestW_tab w hw) rfl (h w hw)
theorem nE.to {s U : State} (h : nE s) (hW : s.WarmedH U.vm) : nE U := by
  intro w hw
  have h1 := h w hw
  simp only [nestW, List.mem_cons, List.not_mem_nil, or_false] at hw
  rcases hw with rfl | rfl | rfl <;> exact va_Nw.warmM hW h1
theorem one_int {D : va_G} {cI cA : ClassId} {s : State} (h : va_K D vwCl ([(cI, .int)] ++ [(cA, .int)]) s) : cA = cI := by
  have h1 : s.vm.findClass ("[" ++ (FieldType.int).toString) = some cI := (h.2 0 _ rfl).2
  have h2 : s.vm.findClass ("[" ++ (FieldType.int).toString) = some cA := (h.2 1 _ rfl).2
  exact Option.some.inj (h2.symm.trans h1)
abbrev wBN (dC : Nat → ClassId) (dI : Nat → Nat → Nat) (tys : List (ClassId × FieldType)) (sz : Nat) (ws : va_W) : State → Prop := fun U => U.heap.size = sz ∧ va_P (dC, dI) vwCl ws U.heap ∧ va_K (dC, dI) vwCl tys U ∧ va_D (fun _ => True) ws ∧ nE U
def ps0 : PS := (fun _ => 0, 0, 0, false, false, false, -1, 0)
def cs0 : CS := (fun _ => 0, 0, 0, fun _ => 0, 0)
def ks0 : KS := (0, 0, 0, 0, 0, false, 0, 0, false)
def fs0 : FS := (false, false, false, false, false)
def pw0 : PW := (ps0, fun _ => 0, fun _ => 0, cs0, ks0, fs0)
def mw0 : MW := (0, fun _ => 0, fun _ => 0, fun _ => 0, false, false, false, false, false, 0, 0, false, false, false, -1, 0, 0, fun _ => 0, 0, fun _ => 0, 0, 0, 0, 0, 0, 0, 0, 0, 0, false)

theorem qX5_init_0 : Cond.methodLink RX5 5 objectInit ∈ wsX5_init := by decide +kernel
theorem qX5_init_1 : Cond.instanceMethod objectInit ∈ wsX5_init := by decide +kernel
theorem qX5_init_2 : Cond.code objectInit ⟨#[0xb1]⟩ 1 none ∈ wsX5_init := by decide +kernel
theorem qX5_init_3 : Cond.arrayClass .int ∈ wsX5_init := by decide +kernel
theorem qX5_init_4 : Cond.fieldLink RX5 11 "DiskMachine$Store" "bytes" "[I" ∈ wsX5_init := by decide +kernel
theorem iX5_init_X5 : ∀ w ∈ wsX50, w ∈ wsX5_init := by decide +kernel
set_option maxHeartbeats 4000000 in
set_option maxRecDepth 100000 in
theorem k_X5_init (l : Launch) (dC : Nat → ClassId) (dI : Nat → Nat → Nat) (cI : ClassId) (mS : Nat) (sz : Nat) : Met l yX5_init wsX5_init ({ frames := 1, cells := 1, slots := 4096, locals := 12 }) (va_Pc [.ref mS] (wB dC dI [(cI, .int)] sz [(mS, .inr (5, [.null]))])) (va_Qv (fun _ : Nat => True) (fun (q : Nat) => wE dC dI [(cI, .int)] (va_A [(mS, .inr (5, [.null]))] sz) [(mS, .inr (5, [.ref q])), (q, .inl (cI, 4096, .inl (fun _ => 0)))]) (va_A [(mS, .inr (5, [.null]))] sz)) 1 4096 (va_A [(mS, .inr (5, [.null]))] sz) := by
  refine Met.ofW (cc := cX5_init) (maxL := 1) (ret := none) (by decide) rfl ?_
  intro p e s m args below meth c s₁ B hml hv
  obtain ⟨rfl, hsz, hP, hK, hD0⟩ := hv
  have hx := B.exec
  have hb := B.bytes
  have hr := B.returns
  have hts := atoms_spec (ws := wsX5_init) B.pre
  have hown : s.vm.findClass RX5 = some m.cls := findClass_of_methodNamed B.named
  have hlocks := B.notSynchronized
  have hin : meth.name = "<init>" := (name_of_methodNamed B.named B.method).1
  subst hsz
  have hD := hD0.self (sz := s.heap.size)
  generalize hAe : va_A [(mS, .inr (5, [.null]))] s.heap.size = A at hD ⊢
  have hA : ∀ q : Nat, s.heap.size ≤ q → A q := fun q h => by rw [← hAe]; exact Or.inr h
  have hS : va_S A s.heap s.heap [] := va_S.rf
  have hP : va_P (dC, dI) vwCl [(mS, .inr (5, [.null]))] s.heap := hP
  clear hAe hD0
  have hl := lv_entry ([.ref mS]) (n := 1) (Nat.le_of_ble_eq_true rfl)
  rw [lg_entry_eq]
  generalize (lg_sl ([.ref mS]) ++ List.replicate (1 - (lg_sl ([.ref mS])).length) Slot.unset).toArray = ls at hl ⊢
  have hl : lv_has ls 1 [(0, .ref mS)] := hl
  refine jn_H hP hS (fun H locs hP hS => ?_)
  refine lv_aload_n hx hb dX5_init_0 rfl (lv_at hl 0 rfl) ?_
  refine W.objInit hx hb hown (hts _ qX5_init_0) (hts _ qX5_init_1) (hts _ qX5_init_2) rfl (by rw [hml]; exact hl.1) rfl dX5_init_1 (Nat.le_of_ble_eq_true rfl) (Nat.le_of_ble_eq_true rfl) ?_
  refine W.eq (g2 := F0 m 4 ls []) rfl ?_
  refine lv_aload_n hx hb dX5_init_4 rfl (lv_at hl 0 rfl) ?_
  refine lv_sipush (v := 4096) hx hb dX5_init_5 (by decide) ?_
  refine va_newa (atype := .int) (ty := .int) (a0 := (4096, .inl (fun _ => 0))) (N' := 4096) hx hb (hts _ qX5_init_3) rfl hK hP hD hS hA (fun _ => rfl) (by decide) (by decide) (by decide) (Nat.le_of_ble_eq_true rfl) (Nat.le_of_ble_eq_true rfl) dX5_init_8 (fun n1 cA H hK2 hP hD hS => ?_)
  have h9 := (one_int hK2).symm
  subst h9
  clear hK2
  have hP : va_P (dC, dI) vwCl [(mS, .inr (5, [.null])), (n1, .inl (cI, 4096, .inl (fun _ => 0)))] H := hP
  have hD : va_D A [(mS, .inr (5, [.null])), (n1, .inl (cI, 4096, .inl (fun _ => 0)))] := hD
  refine va_putF (D := (dC, dI)) (ci := 5) (v := .ref n1) (ty := (.array .int)) (C := RX5) (T := TX5) (N := 1) hx hb hts iX5_init_X5 tyX5 tyX5_ok nmX5 hown hK hP hD hS 0 rfl rfl 0 (by decide) (hts _ qX5_init_4) (fun _ h9 => h9) rfl hin rfl (by decide +kernel) rfl rfl (Nat.le_of_ble_eq_true rfl) dX5_init_10 (fun H locs hP hD hS => ?_)
  have hP : va_P (dC, dI) vwCl [(mS, .inr (5, [.ref n1])), (n1, .inl (cI, 4096, .inl (fun _ => 0)))] H := hP
  have hD : va_D A [(mS, .inr (5, [.ref n1])), (n1, .inl (cI, 4096, .inl (fun _ => 0)))] := hD
  have hP9 := hP.sub (ws' := [(mS, .inr (5, [.ref n1])), (n1, .inl (cI, 4096, .inl (fun _ => 0)))]) [0, 1] rfl
  have hD9 := hD.sub (ws' := [(mS, .inr (5, [.ref n1])), (n1, .inl (cI, 4096, .inl (fun _ => 0)))]) [0, 1] (by decide) rfl
  refine W.widen (k := 1) (n := 4096) (Nat.le_of_ble_eq_true rfl) (Nat.le_of_ble_eq_true rfl) ?_
  exact W.vret hx hb hr (fun t ht hW => ⟨⟨(n1), rfl, trivial, by rw [ht]; exact hP9, va_K.moved hW.alike hK, hD9⟩, hS.F ht⟩) hS.2.2 dX5_init_13

theorem qX1_init_0 : Cond.methodLink RX1 5 objectInit ∈ wsX1_init := by decide +kernel
theorem qX1_init_1 : Cond.instanceMethod objectInit ∈ wsX1_init := by decide +kernel
theorem qX1_init_2 : Cond.code objectInit ⟨#[0xb1]⟩ 1 none ∈ wsX1_init := by decide +kernel
theorem qX1_init_3 : Cond.arrayClass .int ∈ wsX1_init := by decide +kernel
theorem qX1_init_4 : Cond.fieldLink RX1 11 "DiskMachine$Console" "input" "[I" ∈ wsX1_init := by decide +kernel
theorem qX1_init_5 : Cond.fieldLink RX1 15 "DiskMachine$Console" "output" "[I" ∈ wsX1_init := by decide +kernel
theorem iX1_init_X1 : ∀ w ∈ wsX10, w ∈ wsX1_init := by decide +kernel
set_option maxHeartbeats 4000000 in
set_option maxRecDepth 100000 in
theorem k_X1_init (l : Launch) (dC : Nat → ClassId) (dI : Nat → Nat → Nat) (cI : ClassId) (cO : Nat) (sz : Nat) : Met l yX1_init wsX1_init ({ frames := 1, cells := 2, slots := 320, locals := 12 }) (va_Pc [.ref cO] (wB dC dI [(cI, .int)] sz [(cO, .inr (1, [.null, .int 0, .int 0, .null, .int 0]))])) (va_Qv (fun _ : Nat × Nat => True) (fun (q : Nat × Nat) => wE dC dI [(cI, .int)] (va_A [(cO, .inr (1, [.null, .int 0, .int 0, .null, .int 0]))] sz) [(cO, .inr (1, [.ref q.1, .int 0, .int 0, .ref q.2, .int 0])), (q.1, .inl (cI, 64, .inl (fun _ => 0))), (q.2, .inl (cI, 256, .inl (fun _ => 0)))]) (va_A [(cO, .inr (1, [.null, .int 0, .int 0, .null, .int 0]))] sz)) 2 320 (va_A [(cO, .inr (1, [.null, .int 0, .int 0, .null, .int 0]))] sz) := by
  refine Met.ofW (cc := cX1_init) (maxL := 1) (ret := none) (by decide) rfl ?_
  intro p e s m args below meth c s₁ B hml hv
  obtain ⟨rfl, hsz, hP, hK, hD0⟩ := hv
  have hx := B.exec
  have hb := B.bytes
  have hr := B.returns
  have hts := atoms_spec (ws := wsX1_init) B.pre
  have hown : s.vm.findClass RX1 = some m.cls := findClass_of_methodNamed B.named
  have hlocks := B.notSynchronized
  have hin : meth.name = "<init>" := (name_of_methodNamed B.named B.method).1
  subst hsz
  have hD := hD0.self (sz := s.heap.size)
  generalize hAe : va_A [(cO, .inr (1, [.null, .int 0, .int 0, .null, .int 0]))] s.heap.size = A at hD ⊢
  have hA : ∀ q : Nat, s.heap.size ≤ q → A q := fun q h => by rw [← hAe]; exact Or.inr h
  have hS : va_S A s.heap s.heap [] := va_S.rf
  have hP : va_P (dC, dI) vwCl [(cO, .inr (1, [.null, .int 0, .int 0, .null, .int 0]))] s.heap := hP
  clear hAe hD0
  have hl := lv_entry ([.ref cO]) (n := 1) (Nat.le_of_ble_eq_true rfl)
  rw [lg_entry_eq]
  generalize (lg_sl ([.ref cO]) ++ List.replicate (1 - (lg_sl ([.ref cO])).length) Slot.unset).toArray = ls at hl ⊢
  have hl : lv_has ls 1 [(0, .ref cO)] := hl
  refine jn_H hP hS (fun H locs hP hS => ?_)
  refine lv_aload_n hx hb dX1_init_0 rfl (lv_at hl 0 rfl) ?_
  refine W.objInit hx hb hown (hts _ qX1_init_0) (hts _ qX1_init_1) (hts _ qX1_init_2) rfl (by rw [hml]; exact hl.1) rfl dX1_init_1 (Nat.le_of_ble_eq_true rfl) (Nat.le_of_ble_eq_true rfl) ?_
  refine W.eq (g2 := F0 m 4 ls []) rfl ?_
  refine lv_aload_n hx hb dX1_init_4 rfl (lv_at hl 0 rfl) ?_
  refine lv_bipush (v := 64) hx hb dX1_init_5 (by decide) ?_
  refine va_newa (atype := .int) (ty := .int) (a0 := (64, .inl (fun _ => 0))) (N' := 64) hx hb (hts _ qX1_init_3) rfl hK hP hD hS hA (fun _ => rfl) (by decide) (by decide) (by decide) (Nat.le_of_ble_eq_true rfl) (Nat.le_of_ble_eq_true rfl) dX1_init_7 (fun n1 cA H hK2 hP hD hS => ?_)
  have h9 := (one_int hK2).symm
  subst h9
  clear hK2
  have hP : va_P (dC, dI) vwCl [(cO, .inr (1, [.null, .int 0, .int 0, .null, .int 0])), (n1, .inl (cI, 64, .inl (fun _ => 0)))] H := hP
  have hD : va_D A [(cO, .inr (1, [.null, .int 0, .int 0, .null, .int 0])), (n1, .inl (cI, 64, .inl (fun _ => 0)))] := hD
  refine va_putF (D := (dC, dI)) (ci := 1) (v := .ref n1) (ty := (.array .int)) (C := RX1) (T := TX1) (N := 5) hx hb hts iX1_init_X1 tyX1 tyX1_ok nmX1 hown hK hP hD hS 0 rfl rfl 0 (by decide) (hts _ qX1_init_4) (fun _ h9 => h9) rfl hin rfl (by decide +kernel) rfl rfl (Nat.le_of_ble_eq_true rfl) dX1_init_9 (fun H locs hP hD hS => ?_)
  have hP : va_P (dC, dI) vwCl [(cO, .inr (1, [.ref n1, .int 0, .int 0, .null, .int 0])), (n1, .inl (cI, 64, .inl (fun _ => 0)))] H := hP
  have hD : va_D A [(cO, .inr (1, [.ref n1, .int 0, .int 0, .null, .int 0])), (n1, .inl (cI, 64, .inl (fun _ => 0)))] := hD
  refine lv_aload_n hx hb dX1_init_12 rfl (lv_at hl 0 rfl) ?_
  refine lv_sipush (v := 256) hx hb dX1_init_13 (by decide) ?_
  refine va_newa (atype := .int) (ty := .int) (a0 := (256, .inl (fun _ => 0))) (N' := 256) hx hb (hts _ qX1_init_3) rfl hK hP hD hS hA (fun _ => rfl) (by decide) (by decide) (by decide) (Nat.le_of_ble_eq_true rfl) (Nat.le_of_ble_eq_true rfl) dX1_init_16 (fun n2 cA H hK2 hP hD hS => ?_)
  have h9 := (one_int hK2).symm
  subst h9
  clear hK2
  have hP : va_P (dC, dI) vwCl [(cO, .inr (1, [.ref n1, .int 0, .int 0, .null, .int 0])), (n1, .inl (cI, 64, .inl (fun _ => 0))), (n2, .inl (cI, 256, .inl (fun _ => 0)))] H := hP
  have hD : va_D A [(cO, .inr (1, [.ref n1, .int 0, .int 0, .null, .int 0])), (n1, .inl (cI, 64, .inl (fun _ => 0))), (n2, .inl (cI, 256, .inl (fun _ => 0)))] := hD
  refine va_putF (D := (dC, dI)) (ci := 1) (v := .ref n2) (ty := (.array .int)) (C := RX1) (T := TX1) (N := 5) hx hb hts iX1_init_X1 tyX1 tyX1_ok nmX1 hown hK hP hD hS 0 rfl rfl 3 (by decide) (hts _ qX1_init_5) (fun _ h9 => h9) rfl hin rfl (by decide +kernel) rfl rfl (Nat.le_of_ble_eq_true rfl) dX1_init_18 (fun H locs hP hD hS => ?_)
  have hP : va_P (dC, dI) vwCl [(cO, .inr (1, [.ref n1, .int 0, .int 0, .ref n2, .int 0])), (n1, .inl (cI, 64, .inl (fun _ => 0))), (n2, .inl (cI, 256, .inl (fun _ => 0)))] H := hP
  have hD : va_D A [(cO, .inr (1, [.ref n1, .int 0, .int 0, .ref n2, .int 0])), (n1, .inl (cI, 64, .inl (fun _ => 0))), (n2, .inl (cI, 256, .inl (fun _ => 0)))] := hD
  have hP9 := hP.sub (ws' := [(cO, .inr (1, [.ref n1, .int 0, .int 0, .ref n2, .int 0])), (n1, .inl (cI, 64, .inl (fun _ => 0))), (n2, .inl (cI, 256, .inl (fun _ => 0)))]) [0, 1, 2] rfl
  have hD9 := hD.sub (ws' := [(cO, .inr (1, [.ref n1, .int 0, .int 0, .ref n2, .int 0])), (n1, .inl (cI, 64, .inl (fun _ => 0))), (n2, .inl (cI, 256, .inl (fun _ => 0)))]) [0, 1, 2] (by decide) rfl
  refine W.widen (k := 2) (n := 320) (Nat.le_of_ble_eq_true rfl) (Nat.le_of_ble_eq_true rfl) ?_
  exact W.vret hx hb hr (fun t ht hW => ⟨⟨(n1, n2), rfl, trivial, by rw [ht]; exact hP9, va_K.moved hW.alike hK, hD9⟩, hS.F ht⟩) hS.2.2 dX1_init_21

theorem qX2_init_0 : Cond.methodLink RX2 3 objectInit ∈ wsX2_init := by decide +kernel
theorem qX2_init_1 : Cond.instanceMethod objectInit ∈ wsX2_init := by decide +kernel
theorem qX2_init_2 : Cond.code objectInit ⟨#[0xb1]⟩ 1 none ∈ wsX2_init := by decide +kernel
theorem qX2_init_3 : Cond.fieldLink RX2 9 "DiskMachine$Controller" "memory" "LDiskMachine$Store;" ∈ wsX2_init := by decide +kernel
theorem qX2_init_4 : Cond.fieldLink RX2 15 "DiskMachine$Controller" "disk" "LDiskMachine$Store;" ∈ wsX2_init := by decide +kernel
theorem iX2_init_X2 : ∀ w ∈ wsX20, w ∈ wsX2_init := by decide +kernel
set_option maxHeartbeats 4000000 in
set_option maxRecDepth 100000 in
theorem k_X2_init (l : Launch) (dC : Nat → ClassId) (dI : Nat → Nat → Nat) (cI : ClassId) (kO mS dS : Nat) (sz : Nat) : Met l yX2_init wsX2_init ({ frames := 1, cells := 0, slots := 0, locals := 12 }) (va_Pc [.ref kO, .ref mS, .ref dS] (wB dC dI [(cI, .int)] sz [(kO, .inr (2, [.null, .null, .int 0, .int 0, .int 0, .int 0, .int 0, .int 0, .int 0, .int 0, .int 0]))])) (va_Qv (fun _ : Unit => True) (fun (q : Unit) => wE dC dI [(cI, .int)] (va_A [(kO, .inr (2, [.null, .null, .int 0, .int 0, .int 0, .int 0, .int 0, .int 0, .int 0, .int 0, .int 0]))] sz) [(kO, .inr (2, [.ref mS, .ref dS, .int 0, .int 0, .int 0, .int 0, .int 0, .int 0, .int 0, .int 0, .int 0]))]) (va_A [(kO, .inr (2, [.null, .null, .int 0, .int 0, .int 0, .int 0, .int 0, .int 0, .int 0, .int 0, .int 0]))] sz)) 0 0 (va_A [(kO, .inr (2, [.null, .null, .int 0, .int 0, .int 0, .int 0, .int 0, .int 0, .int 0, .int 0, .int 0]))] sz) := by
  refine Met.ofW (cc := cX2_init) (maxL := 3) (ret := none) (by decide) rfl ?_
  intro p e s m args below meth c s₁ B hml hv
  obtain ⟨rfl, hsz, hP, hK, hD0⟩ := hv
  have hx := B.exec
  have hb := B.bytes
  have hr := B.returns
  have hts := atoms_spec (ws := wsX2_init) B.pre
  have hown : s.vm.findClass RX2 = some m.cls := findClass_of_methodNamed B.named
  have hlocks := B.notSynchronized
  have hin : meth.name = "<init>" := (name_of_methodNamed B.named B.method).1
  subst hsz
  have hD := hD0.self (sz := s.heap.size)
  generalize hAe : va_A [(kO, .inr (2, [.null, .null, .int 0, .int 0, .int 0, .int 0, .int 0, .int 0, .int 0, .int 0, .int 0]))] s.heap.size = A at hD ⊢
  have hA : ∀ q : Nat, s.heap.size ≤ q → A q := fun q h => by rw [← hAe]; exact Or.inr h
  have hS : va_S A s.heap s.heap [] := va_S.rf
  have hP : va_P (dC, dI) vwCl [(kO, .inr (2, [.null, .null, .int 0, .int 0, .int 0, .int 0, .int 0, .int 0, .int 0, .int 0, .int 0]))] s.heap := hP
  clear hAe hD0
  have hl := lv_entry ([.ref kO, .ref mS, .ref dS]) (n := 3) (Nat.le_of_ble_eq_true rfl)
  rw [lg_entry_eq]
  generalize (lg_sl ([.ref kO, .ref mS, .ref dS]) ++ List.replicate (3 - (lg_sl ([.ref kO, .ref mS, .ref dS])).length) Slot.unset).toArray = ls at hl ⊢
  have hl : lv_has ls 3 [(0, .ref kO), (1, .ref mS), (2, .ref dS)] := hl
  refine jn_H hP hS (fun H locs hP hS => ?_)
  refine lv_aload_n hx hb dX2_init_0 rfl (lv_at hl 0 rfl) ?_
  refine W.objInit hx hb hown (hts _ qX2_init_0) (hts _ qX2_init_1) (hts _ qX2_init_2) rfl (by rw [hml]; exact hl.1) rfl dX2_init_1 (Nat.le_of_ble_eq_true rfl) (Nat.le_of_ble_eq_true rfl) ?_
  refine W.eq (g2 := F0 m 4 ls []) rfl ?_
  refine lv_aload_n hx hb dX2_init_4 rfl (lv_at hl 0 rfl) ?_
  refine lv_aload_n hx hb dX2_init_5 rfl (lv_at hl 1 rfl) ?_
  refine va_putF (D := (dC, dI)) (ci := 2) (v := .ref mS) (ty := (.object "DiskMachine$Store")) (C := RX2) (T := TX2) (N := 11) hx hb hts iX2_init_X2 tyX2 tyX2_ok nmX2 hown hK hP hD hS 0 rfl rfl 0 (by decide) (hts _ qX2_init_3) (fun _ h9 => h9) rfl hin rfl (by decide +kernel) rfl rfl (Nat.le_of_ble_eq_true rfl) dX2_init_6 (fun H locs hP hD hS => ?_)
  have hP : va_P (dC, dI) vwCl [(kO, .inr (2, [.ref mS, .null, .int 0, .int 0, .int 0, .int 0, .int 0, .int 0, .int 0, .int 0, .int 0]))] H := hP
  have hD : va_D A [(kO, .inr (2, [.ref mS, .null, .int 0, .int 0, .int 0, .int 0, .int 0, .int 0, .int 0, .int 0, .int 0]))] := hD
  refine lv_aload_n hx hb dX2_init_9 rfl (lv_at hl 0 rfl) ?_
  refine lv_aload_n hx hb dX2_init_10 rfl (lv_at hl 2 rfl) ?_
  refine va_putF (D := (dC, dI)) (ci := 2) (v := .ref dS) (ty := (.object "DiskMachine$Store")) (C := RX2) (T := TX2) (N := 11) hx hb hts iX2_init_X2 tyX2 tyX2_ok nmX2 hown hK hP hD hS 0 rfl rfl 1 (by decide) (hts _ qX2_init_4) (fun _ h9 => h9) rfl hin rfl (by decide +kernel) rfl rfl (Nat.le_of_ble_eq_true rfl) dX2_init_11 (fun H locs hP hD hS => ?_)
  have hP : va_P (dC, dI) vwCl [(kO, .inr (2, [.ref mS, .ref dS, .int 0, .int 0, .int 0, .int 0, .int 0, .int 0, .int 0, .int 0, .int 0]))] H := hP
  have hD : va_D A [(kO, .inr (2, [.ref mS, .ref dS, .int 0, .int 0, .int 0, .int 0, .int 0, .int 0, .int 0, .int 0, .int 0]))] := hD
  have hP9 := hP.sub (ws' := [(kO, .inr (2, [.ref mS, .ref dS, .int 0, .int 0, .int 0, .int 0, .int 0, .int 0, .int 0, .int 0, .int 0]))]) [0] rfl
  have hD9 := hD.sub (ws' := [(kO, .inr (2, [.ref mS, .ref dS, .int 0, .int 0, .int 0, .int 0, .int 0, .int 0, .int 0, .int 0, .int 0]))]) [0] (by decide) rfl
  refine W.widen (k := 0) (n := 0) (Nat.le_of_ble_eq_true rfl) (Nat.le_of_ble_eq_true rfl) ?_
  exact W.vret hx hb hr (fun t ht hW => ⟨⟨(), rfl, trivial, by rw [ht]; exact hP9, va_K.moved hW.alike hK, hD9⟩, hS.F ht⟩) hS.2.2 dX2_init_14

theorem qX3_init_0 : Cond.methodLink RX3 1 objectInit ∈ wsX3_init := by decide +kernel
theorem qX3_init_1 : Cond.instanceMethod objectInit ∈ wsX3_init := by decide +kernel
theorem qX3_init_2 : Cond.code objectInit ⟨#[0xb1]⟩ 1 none ∈ wsX3_init := by decide +kernel
set_option maxHeartbeats 4000000 in
set_option maxRecDepth 100000 in
theorem k_X3_init (l : Launch) (dC : Nat → ClassId) (dI : Nat → Nat → Nat) (cI : ClassId) (fO : Nat) (sz : Nat) : Met l yX3_init wsX3_init ({ frames := 1, cells := 0, slots := 0, locals := 12 }) (va_Pc [.ref fO] (wB dC dI [(cI, .int)] sz [(fO, .inr (3, [.int 0, .int 0, .int 0, .int 0, .int 0]))])) (va_Qv (fun _ : Unit => True) (fun (q : Unit) => wE dC dI [(cI, .int)] (va_A [(fO, .inr (3, [.int 0, .int 0, .int 0, .int 0, .int 0]))] sz) [(fO, .inr (3, [.int 0, .int 0, .int 0, .int 0, .int 0]))]) (va_A [(fO, .inr (3, [.int 0, .int 0, .int 0, .int 0, .int 0]))] sz)) 0 0 (va_A [(fO, .inr (3, [.int 0, .int 0, .int 0, .int 0, .int 0]))] sz) := by
  refine Met.ofW (cc := cX3_init) (maxL := 1) (ret := none) (by decide) rfl ?_
  intro p e s m args below meth c s₁ B hml hv
  obtain ⟨rfl, hsz, hP, hK, hD0⟩ := hv
  have hx := B.exec
  have hb := B.bytes
  have hr := B.returns
  have hts := atoms_spec (ws := wsX3_init) B.pre
  have hown : s.vm.findClass RX3 = some m.cls := findClass_of_methodNamed B.named
  have hlocks := B.notSynchronized
  have hin : meth.name = "<init>" := (name_of_methodNamed B.named B.method).1
  subst hsz
  have hD := hD0.self (sz := s.heap.size)
  generalize hAe : va_A [(fO, .inr (3, [.int 0, .int 0, .int 0, .int 0, .int 0]))] s.heap.size = A at hD ⊢
  have hA : ∀ q : Nat, s.heap.size ≤ q → A q := fun q h => by rw [← hAe]; exact Or.inr h
  have hS : va_S A s.heap s.heap [] := va_S.rf
  have hP : va_P (dC, dI) vwCl [(fO, .inr (3, [.int 0, .int 0, .int 0, .int 0, .int 0]))] s.heap := hP
  clear hAe hD0
  have hl := lv_entry ([.ref fO]) (n := 1) (Nat.le_of_ble_eq_true rfl)
  rw [lg_entry_eq]
  generalize (lg_sl ([.ref fO]) ++ List.replicate (1 - (lg_sl ([.ref fO])).length) Slot.unset).toArray = ls at hl ⊢
  have hl : lv_has ls 1 [(0, .ref fO)] := hl
  refine jn_H hP hS (fun H locs hP hS => ?_)
  refine lv_aload_n hx hb dX3_init_0 rfl (lv_at hl 0 rfl) ?_
  refine W.objInit hx hb hown (hts _ qX3_init_0) (hts _ qX3_init_1) (hts _ qX3_init_2) rfl (by rw [hml]; exact hl.1) rfl dX3_init_1 (Nat.le_of_ble_eq_true rfl) (Nat.le_of_ble_eq_true rfl) ?_
  refine W.eq (g2 := F0 m 4 ls []) rfl ?_
  have hP9 := hP.sub (ws' := [(fO, .inr (3, [.int 0, .int 0, .int 0, .int 0, .int 0]))]) [0] rfl
  have hD9 := hD.sub (ws' := [(fO, .inr (3, [.int 0, .int 0, .int 0, .int 0, .int 0]))]) [0] (by decide) rfl
  refine W.widen (k := 0) (n := 0) (Nat.le_of_ble_eq_true rfl) (Nat.le_of_ble_eq_true rfl) ?_
  exact W.vret hx hb hr (fun t ht hW => ⟨⟨(), rfl, trivial, by rw [ht]; exact hP9, va_K.moved hW.alike hK, hD9⟩, hS.F ht⟩) hS.2.2 dX3_init_4

theorem qX0_init_0 : Cond.methodLink RX0 3 objectInit ∈ wsX0_init := by decide +kernel
theorem qX0_init_1 : Cond.instanceMethod objectInit ∈ wsX0_init := by decide +kernel
theorem qX0_init_2 : Cond.code objectInit ⟨#[0xb1]⟩ 1 none ∈ wsX0_init := by decide +kernel
theorem qX0_init_3 : Cond.fieldLink RX0 9 "DiskMachine$Arithmetic" "flags" "LDiskMachine$Flags;" ∈ wsX0_init := by decide +kernel
theorem iX0_init_X0 : ∀ w ∈ wsX00, w ∈ wsX0_init := by decide +kernel
set_option maxHeartbeats 4000000 in
set_option maxRecDepth 100000 in
theorem k_X0_init (l : Launch) (dC : Nat → ClassId) (dI : Nat → Nat → Nat) (cI : ClassId) (aO fO : Nat) (sz : Nat) : Met l yX0_init wsX0_init ({ frames := 1, cells := 0, slots := 0, locals := 12 }) (va_Pc [.ref aO, .ref fO] (wB dC dI [(cI, .int)] sz [(aO, .inr (0, [.null]))])) (va_Qv (fun _ : Unit => True) (fun (q : Unit) => wE dC dI [(cI, .int)] (va_A [(aO, .inr (0, [.null]))] sz) [(aO, .inr (0, [.ref fO]))]) (va_A [(aO, .inr (0, [.null]))] sz)) 0 0 (va_A [(aO, .inr (0, [.null]))] sz) := by
  refine Met.ofW (cc := cX0_init) (maxL := 2) (ret := none) (by decide) rfl ?_
  intro p e s m args below meth c s₁ B hml hv
  obtain ⟨rfl, hsz, hP, hK, hD0⟩ := hv
  have hx := B.exec
  have hb := B.bytes
  have hr := B.returns
  have hts := atoms_spec (ws := wsX0_init) B.pre
  have hown : s.vm.findClass RX0 = some m.cls := findClass_of_methodNamed B.named
  have hlocks := B.notSynchronized
  have hin : meth.name = "<init>" := (name_of_methodNamed B.named B.method).1
  subst hsz
  have hD := hD0.self (sz := s.heap.size)
  generalize hAe : va_A [(aO, .inr (0, [.null]))] s.heap.size = A at hD ⊢
  have hA : ∀ q : Nat, s.heap.size ≤ q → A q := fun q h => by rw [← hAe]; exact Or.inr h
  have hS : va_S A s.heap s.heap [] := va_S.rf
  have hP : va_P (dC, dI) vwCl [(aO, .inr (0, [.null]))] s.heap := hP
  clear hAe hD0
  have hl := lv_entry ([.ref aO, .ref fO]) (n := 2) (Nat.le_of_ble_eq_true rfl)
  rw [lg_entry_eq]
  generalize (lg_sl ([.ref aO, .ref fO]) ++ List.replicate (2 - (lg_sl ([.ref aO, .ref fO])).length) Slot.unset).toArray = ls at hl ⊢
  have hl : lv_has ls 2 [(0, .ref aO), (1, .ref fO)] := hl
  refine jn_H hP hS (fun H locs hP hS => ?_)
  refine lv_aload_n hx hb dX0_init_0 rfl (lv_at hl 0 rfl) ?_
  refine W.objInit hx hb hown (hts _ qX0_init_0) (hts _ qX0_init_1) (hts _ qX0_init_2) rfl (by rw [hml]; exact hl.1) rfl dX0_init_1 (Nat.le_of_ble_eq_true rfl) (Nat.le_of_ble_eq_true rfl) ?_
  refine W.eq (g2 := F0 m 4 ls []) rfl ?_
  refine lv_aload_n hx hb dX0_init_4 rfl (lv_at hl 0 rfl) ?_
  refine lv_aload_n hx hb dX0_init_5 rfl (lv_at hl 1 rfl) ?_
  refine va_putF (D := (dC, dI)) (ci := 0) (v := .ref fO) (ty := (.object "DiskMachine$Flags")) (C := RX0) (T := TX0) (N := 1) hx hb hts iX0_init_X0 tyX0 tyX0_ok nmX0 hown hK hP hD hS 0 rfl rfl 0 (by decide) (hts _ qX0_init_3) (fun _ h9 => h9) rfl hin rfl (by decide +kernel) rfl rfl (Nat.le_of_ble_eq_true rfl) dX0_init_6 (fun H locs hP hD hS => ?_)
  have hP : va_P (dC, dI) vwCl [(aO, .inr (0, [.ref fO]))] H := hP
  have hD : va_D A [(aO, .inr (0, [.ref fO]))] := hD
  have hP9 := hP.sub (ws' := [(aO, .inr (0, [.ref fO]))]) [0] rfl
  have hD9 := hD.sub (ws' := [(aO, .inr (0, [.ref fO]))]) [0] (by decide) rfl
  refine W.widen (k := 0) (n := 0) (Nat.le_of_ble_eq_true rfl) (Nat.le_of_ble_eq_true rfl) ?_
  exact W.vret hx hb hr (fun t ht hW => ⟨⟨(), rfl, trivial, by rw [ht]; exact hP9, va_K.moved hW.alike hK, hD9⟩, hS.F ht⟩) hS.2.2 dX0_init_9
