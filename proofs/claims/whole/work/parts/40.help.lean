abbrev wLx (cI cJ : ClassId) (oL xO pO mS mA dS dA cO iA oA kO fO aO rA : Nat) (u : PW) (g : Nat → Int64) : va_W := (oL, .inl (cJ, 1, .inr (.inl g))) :: wX cI xO pO mS mA dS dA cO iA oA kO fO aO rA u
section LFRAMES
variable {D : va_G} {cI cJ : ClassId} {H H1 H0 : Heap} {A : Nat → Prop} {locs : List Loc} {oL xO pO mS mA dS dA cO iA oA kO fO aO rA : Nat} {u v : PW} {g : Nat → Int64}
theorem xL_X (hP : va_P D vwCl (wLx cI cJ oL xO pO mS mA dS dA cO iA oA kO fO aO rA u g) H) (hD : va_D A (wLx cI cJ oL xO pO mS mA dS dA cO iA oA kO fO aO rA u g)) (hS : va_S A H0 H locs) (hA : ∀ q : Nat, H0.size ≤ q → A q) : va_P D vwCl (wX cI xO pO mS mA dS dA cO iA oA kO fO aO rA u) H ∧ va_D A (wX cI xO pO mS mA dS dA cO iA oA kO fO aO rA u) ∧ (∀ q, va_A (wX cI xO pO mS mA dS dA cO iA oA kO fO aO rA u) H.size q → A q) := ⟨hP.sub (ws' := wX cI xO pO mS mA dS dA cO iA oA kO fO aO rA u) [1, 2, 3, 4, 5, 6, 7, 8, 9, 10, 11, 12, 13] rfl, hD.sub (ws' := wX cI xO pO mS mA dS dA cO iA oA kO fO aO rA u) [1, 2, 3, 4, 5, 6, 7, 8, 9, 10, 11, 12, 13] (by decide) rfl, va_free (wc := wX cI xO pO mS mA dS dA cO iA oA kO fO aO rA u) hD hS hA [1, 2, 3, 4, 5, 6, 7, 8, 9, 10, 11, 12, 13] rfl⟩
theorem jL_X (hP : va_P D vwCl (wLx cI cJ oL xO pO mS mA dS dA cO iA oA kO fO aO rA u g) H) (hD : va_D A (wLx cI cJ oL xO pO mS mA dS dA cO iA oA kO fO aO rA u g)) (hk : ∀ q : Nat, q < H.size → ¬ va_A (wX cI xO pO mS mA dS dA cO iA oA kO fO aO rA u) H.size q → H1[q]? = H[q]?) (hF : ∀ q, va_A (wX cI xO pO mS mA dS dA cO iA oA kO fO aO rA u) H.size q → A q) (hP1 : va_P D vwCl (wX cI xO pO mS mA dS dA cO iA oA kO fO aO rA v) H1) (hD1 : va_D (va_A (wX cI xO pO mS mA dS dA cO iA oA kO fO aO rA u) H.size) (wX cI xO pO mS mA dS dA cO iA oA kO fO aO rA v)) : va_P D vwCl (wLx cI cJ oL xO pO mS mA dS dA cO iA oA kO fO aO rA v g) H1 ∧ va_D A (wLx cI cJ oL xO pO mS mA dS dA cO iA oA kO fO aO rA v g) :=
  va_join (wr := [(oL, .inl (cJ, 1, .inr (.inl g)))]) (w1 := wX cI xO pO mS mA dS dA cO iA oA kO fO aO rA v) hP hD [1, 2, 3, 4, 5, 6, 7, 8, 9, 10, 11, 12, 13] [0] rfl rfl (by decide) (by decide) hk hF hP1 hD1
theorem xX_X (hP : va_P D vwCl (wX cI xO pO mS mA dS dA cO iA oA kO fO aO rA u) H) (hD : va_D A (wX cI xO pO mS mA dS dA cO iA oA kO fO aO rA u)) (hS : va_S A H0 H locs) (hA : ∀ q : Nat, H0.size ≤ q → A q) : va_P D vwCl (wX cI xO pO mS mA dS dA cO iA oA kO fO aO rA u) H ∧ va_D A (wX cI xO pO mS mA dS dA cO iA oA kO fO aO rA u) ∧ (∀ q, va_A (wX cI xO pO mS mA dS dA cO iA oA kO fO aO rA u) H.size q → A q) := ⟨hP, hD, va_free (wc := wX cI xO pO mS mA dS dA cO iA oA kO fO aO rA u) hD hS hA [0, 1, 2, 3, 4, 5, 6, 7, 8, 9, 10, 11, 12] rfl⟩
theorem jX_X (hP : va_P D vwCl (wX cI xO pO mS mA dS dA cO iA oA kO fO aO rA u) H) (hD : va_D A (wX cI xO pO mS mA dS dA cO iA oA kO fO aO rA u)) (hk : ∀ q : Nat, q < H.size → ¬ va_A (wX cI xO pO mS mA dS dA cO iA oA kO fO aO rA u) H.size q → H1[q]? = H[q]?) (hF : ∀ q, va_A (wX cI xO pO mS mA dS dA cO iA oA kO fO aO rA u) H.size q → A q) (hP1 : va_P D vwCl (wX cI xO pO mS mA dS dA cO iA oA kO fO aO rA v) H1) (hD1 : va_D (va_A (wX cI xO pO mS mA dS dA cO iA oA kO fO aO rA u) H.size) (wX cI xO pO mS mA dS dA cO iA oA kO fO aO rA v)) : va_P D vwCl (wX cI xO pO mS mA dS dA cO iA oA kO fO aO rA v) H1 ∧ va_D A (wX cI xO pO mS mA dS dA cO iA oA kO fO aO rA v) :=
  va_join (wr := []) (w1 := wX cI xO pO mS mA dS dA cO iA oA kO fO aO rA v) hP hD [0, 1, 2, 3, 4, 5, 6, 7, 8, 9, 10, 11, 12] [] rfl rfl (by decide) (by decide) hk hF hP1 hD1
end LFRAMES

def f_L_write (u : PW) (g : Nat → Int64) (a1 : Int32) (a2 : Int32) : Int32 × PW × (Nat → Int64) := match (f_X6_write u a1 a2) with
  | none => (1, u, g)
  | some x => (0, x.2, vp_updL g (0 : Int32).toNatClampNeg (x.1).toInt64)
theorem qL_write_0 : Cond.classLink RL 13 "java/lang/IllegalArgumentException" ∈ wsL_write := by decide +kernel
set_option maxHeartbeats 4000000 in
set_option maxRecDepth 100000 in
theorem k_L_write (l : Launch) (hl0 : l.stackTraces = false) (dC : Nat → ClassId) (dI : Nat → Nat → Nat) (cI cJ : ClassId) (oL xO pO mS mA dS dA cO iA oA kO fO aO rA : Nat) (sz : Nat) (u : PW) (g : Nat → Int64) (a1 : Int32) (a2 : Int32) : Met l yL_write wsL_write ({ frames := 7, cells := 1, slots := 6, locals := 103 }) (va_Pc [.ref xO, .int a1, .int a2, .ref oL] (wBX dC dI [(cI, .int), (cJ, .long)] sz (wLx cI cJ oL xO pO mS mA dS dA cO iA oA kO fO aO rA u g))) (va_Qi (fun (r : Int32) (x' : PW × (Nat → Int64)) => (r, x') = (f_L_write u g a1 a2)) (fun x' => wE dC dI [(cI, .int), (cJ, .long)] (va_A (wLx cI cJ oL xO pO mS mA dS dA cO iA oA kO fO aO rA u g) sz) (wLx cI cJ oL xO pO mS mA dS dA cO iA oA kO fO aO rA x'.1 x'.2)) (va_A (wLx cI cJ oL xO pO mS mA dS dA cO iA oA kO fO aO rA u g) sz)) 1 6 (va_A (wLx cI cJ oL xO pO mS mA dS dA cO iA oA kO fO aO rA u g) sz) := by
  refine va_MetW (cc := cL_write) (maxL := 5) (ret := (some .int)) (hh := [(0, 10, 13, 13)]) (by decide) rfl ?_
  intro p e s m args below meth c s₁ B hml hv
  obtain ⟨rfl, hsz, hP, hK, hD0, hT⟩ := hv
  have hx := B.exec
  have hb := B.bytes
  have hr := B.returns
  have hts := atoms_spec (ws := wsL_write) B.pre
  have htab := vx_table (x := yL_write) B (hts _ (List.mem_cons_self : Cond.codeWith yL_write cL_write 5 (some .int) [(0, 10, 13, 13)] ∈ wsL_write))
  have hown : s.vm.findClass RL = some m.cls := findClass_of_methodNamed B.named
  have hlocks := B.notSynchronized
  subst hsz
  have hD := hD0.self (sz := s.heap.size)
  generalize hAe : va_A (wLx cI cJ oL xO pO mS mA dS dA cO iA oA kO fO aO rA u g) s.heap.size = A at hD hT ⊢
  have hA : ∀ q : Nat, s.heap.size ≤ q → A q := fun q h => by rw [← hAe]; exact Or.inr h
  have hS : va_S A s.heap s.heap [] := va_S.rf
  have hP : va_P (dC, dI) vwCl (wLx cI cJ oL xO pO mS mA dS dA cO iA oA kO fO aO rA u g) s.heap := hP
  clear hAe hD0
  have hl := lv_entry ([.ref xO, .int a1, .int a2, .ref oL]) (n := 5) (Nat.le_of_ble_eq_true rfl)
  rw [lg_entry_eq]
  generalize (lg_sl ([.ref xO, .int a1, .int a2, .ref oL]) ++ List.replicate (5 - (lg_sl ([.ref xO, .int a1, .int a2, .ref oL])).length) Slot.unset).toArray = ls at hl ⊢
  have hl : lv_has ls 5 [(0, .ref xO), (1, .int a1), (2, .int a2), (3, .ref oL)] := hl
  refine jn_H hP hS (fun H locs hP hS => ?_)
  refine lv_aload_n hx hb dL_write_0 rfl (lv_at hl 3 rfl) ?_
  refine lv_iconst (v := 0) hx hb dL_write_1 (by decide) ?_
  refine lv_aload_n hx hb dL_write_2 rfl (lv_at hl 0 rfl) ?_
  refine lv_iload_n hx hb dL_write_3 rfl (lv_at hl 1 rfl) ?_
  refine lv_iload_n hx hb dL_write_4 rfl (lv_at hl 2 rfl) ?_
  obtain ⟨hPc, hDc, hFc⟩ := xL_X hP hD hS hA
  have hKc := hK.sub (tys' := [(cI, .int)]) [0] rfl
  refine vx_calli (vx_runV (As := [.int a1, .int a2]) (rest := [.int 0, .ref oL]) ⟨hx, hb, hml, hown, hts⟩ (k_X6_write l hl0 dC dI cI xO pO mS mA dS dA cO iA oA kO fO aO rA H.size u a1 a2) (cwV 2 hts gL_write_X6_write rfl rfl rfl (by decide +kernel) ⟨Nat.le_of_ble_eq_true rfl, Nat.le_of_ble_eq_true rfl⟩) ⟨fun a U g mk q => by obtain ⟨q0, q1, qP, qK, qD, qT⟩ := q; exact ⟨q0, q1, qP, va_K.moved (u := U) (U := U.calling g mk a) (Vm.Alike.refl U.vm) qK, qD, qT.calling g mk a⟩, va_recv hKc hPc (ci := 6) (q0 := 0) rfl rfl, fun U hU hW => ⟨rfl, by rw [hU], by rw [hU]; exact hPc, va_K.moved hW.alike hKc, hDc.weaken (fun _ _ _ _ => trivial), hT.to hS hFc hU hW⟩⟩ rfl rfl hl.1 rfl (lv_room (Nat.le_of_ble_eq_true rfl)) dL_write_5 ⟨Nat.le_of_ble_eq_true rfl, Nat.le_of_ble_eq_true rfl⟩) hS (fun q _ h => hFc q h) hFc (fun q _ h => hFc q h) (fun E ce q9 u9 t H1 locs ht hvm hw hB hz1 hk1 hS hce hcv hcl => ?_) (fun r9 u9 t H1 locs ht hvm hw hB hz1 hk1 hS => ?_)
  · obtain ⟨hw1, hw2⟩ := hw
    have hw2 := hw2.symm
    subst hw2
    obtain ⟨rfl, hP1, hK1, hD1⟩ := hB
    rw [ht] at hP1
    obtain ⟨hP, hD⟩ := jL_X hP hD hk1 hFc hP1 hD1
    refine cx_catch (x := ⟨0, 10, 13, 13⟩) hown htab (by decide) (by decide) (hts _ qL_write_0) (va_Nw.use rfl (hT.2.2 _ (by decide +kernel))) hce hcv hcl ?_
    refine lv_astore (lv' := [(4, .ref q9), (0, .ref xO), (1, .int a1), (2, .int a2), (3, .ref oL)]) hx hb dL_write_13 hl (by decide) rfl (fun ls hl => ?_)
    refine lv_iconst (v := 1) hx hb dL_write_15 (by decide) ?_
    refine W.widen (k := 1) (n := 6) (Nat.le_of_ble_eq_true rfl) (Nat.le_of_ble_eq_true rfl) ?_
    exact W.iret (v := 1) hx hb hr (fun t ht hW => ⟨⟨1, (u, g), rfl, (by simp only [f_L_write, hw1]), by rw [ht]; exact hP, va_K.moved hW.alike hK, hD⟩, hS.F ht⟩) hS.2.2 dL_write_16
  · have hw1 := hw
    obtain ⟨hP1, hK1, hD1⟩ := hB
    rw [ht] at hP1
    obtain ⟨hP, hD⟩ := jL_X hP hD hk1 hFc hP1 hD1
    refine lv_i2l (v := (r9).toInt64) hx hb dL_write_8 rfl ?_
    refine va_last (f := g) hx hb hK hP hD hS 0 1 rfl rfl (ix_lit (by decide)) dL_write_9 (fun H locs hP hD hS => ?_)
    have hP : va_P (dC, dI) vwCl (wLx cI cJ oL xO pO mS mA dS dA cO iA oA kO fO aO rA u9 (vp_updL g (0 : Int32).toNatClampNeg (r9).toInt64)) H := hP
    have hD : va_D A (wLx cI cJ oL xO pO mS mA dS dA cO iA oA kO fO aO rA u9 (vp_updL g (0 : Int32).toNatClampNeg (r9).toInt64)) := hD
    refine lv_goto (tgt := 17) hx hb dL_write_10 (by decide) ?_
    refine lv_iconst (v := 0) hx hb dL_write_17 (by decide) ?_
    refine W.widen (k := 1) (n := 6) (Nat.le_of_ble_eq_true rfl) (Nat.le_of_ble_eq_true rfl) ?_
    exact W.iret (v := 0) hx hb hr (fun t ht hW => ⟨⟨0, (u9, (vp_updL g (0 : Int32).toNatClampNeg (r9).toInt64)), rfl, (by simp only [f_L_write, ← hw1]), by rw [ht]; exact hP, va_K.moved hW.alike hK, hD⟩, hS.F ht⟩) hS.2.2 dL_write_18

def f_L_read (u : PW) (g : Nat → Int64) (a1 : Int32) : Int32 × PW × (Nat → Int64) := match (f_X6_read u a1) with
  | none => (1, u, g)
  | some r => (0, u, vp_updL g (0 : Int32).toNatClampNeg (r).toInt64)
theorem qL_read_0 : Cond.classLink RL 13 "java/lang/IllegalArgumentException" ∈ wsL_read := by decide +kernel
set_option maxHeartbeats 4000000 in
set_option maxRecDepth 100000 in
theorem k_L_read (l : Launch) (hl0 : l.stackTraces = false) (dC : Nat → ClassId) (dI : Nat → Nat → Nat) (cI cJ : ClassId) (oL xO pO mS mA dS dA cO iA oA kO fO aO rA : Nat) (sz : Nat) (u : PW) (g : Nat → Int64) (a1 : Int32) : Met l yL_read wsL_read ({ frames := 7, cells := 1, slots := 6, locals := 102 }) (va_Pc [.ref xO, .int a1, .ref oL] (wBX dC dI [(cI, .int), (cJ, .long)] sz (wLx cI cJ oL xO pO mS mA dS dA cO iA oA kO fO aO rA u g))) (va_Qi (fun (r : Int32) (x' : PW × (Nat → Int64)) => (r, x') = (f_L_read u g a1)) (fun x' => wE dC dI [(cI, .int), (cJ, .long)] (va_A (wLx cI cJ oL xO pO mS mA dS dA cO iA oA kO fO aO rA u g) sz) (wLx cI cJ oL xO pO mS mA dS dA cO iA oA kO fO aO rA x'.1 x'.2)) (va_A (wLx cI cJ oL xO pO mS mA dS dA cO iA oA kO fO aO rA u g) sz)) 1 6 (va_A (wLx cI cJ oL xO pO mS mA dS dA cO iA oA kO fO aO rA u g) sz) := by
  refine va_MetW (cc := cL_read) (maxL := 4) (ret := (some .int)) (hh := [(0, 9, 12, 13)]) (by decide) rfl ?_
  intro p e s m args below meth c s₁ B hml hv
  obtain ⟨rfl, hsz, hP, hK, hD0, hT⟩ := hv
  have hx := B.exec
  have hb := B.bytes
  have hr := B.returns
  have hts := atoms_spec (ws := wsL_read) B.pre
  have htab := vx_table (x := yL_read) B (hts _ (List.mem_cons_self : Cond.codeWith yL_read cL_read 4 (some .int) [(0, 9, 12, 13)] ∈ wsL_read))
  have hown : s.vm.findClass RL = some m.cls := findClass_of_methodNamed B.named
  have hlocks := B.notSynchronized
  subst hsz
  have hD := hD0.self (sz := s.heap.size)
  generalize hAe : va_A (wLx cI cJ oL xO pO mS mA dS dA cO iA oA kO fO aO rA u g) s.heap.size = A at hD hT ⊢
  have hA : ∀ q : Nat, s.heap.size ≤ q → A q := fun q h => by rw [← hAe]; exact Or.inr h
  have hS : va_S A s.heap s.heap [] := va_S.rf
  have hP : va_P (dC, dI) vwCl (wLx cI cJ oL xO pO mS mA dS dA cO iA oA kO fO aO rA u g) s.heap := hP
  clear hAe hD0
  have hl := lv_entry ([.ref xO, .int a1, .ref oL]) (n := 4) (Nat.le_of_ble_eq_true rfl)
  rw [lg_entry_eq]
  generalize (lg_sl ([.ref xO, .int a1, .ref oL]) ++ List.replicate (4 - (lg_sl ([.ref xO, .int a1, .ref oL])).length) Slot.unset).toArray = ls at hl ⊢
  have hl : lv_has ls 4 [(0, .ref xO), (1, .int a1), (2, .ref oL)] := hl
  refine jn_H hP hS (fun H locs hP hS => ?_)
  refine lv_aload_n hx hb dL_read_0 rfl (lv_at hl 2 rfl) ?_
  refine lv_iconst (v := 0) hx hb dL_read_1 (by decide) ?_
  refine lv_aload_n hx hb dL_read_2 rfl (lv_at hl 0 rfl) ?_
  refine lv_iload_n hx hb dL_read_3 rfl (lv_at hl 1 rfl) ?_
  obtain ⟨hPc, hDc, hFc⟩ := xL_X hP hD hS hA
  have hKc := hK.sub (tys' := [(cI, .int)]) [0] rfl
  refine vx_calli (vx_runV (As := [.int a1]) (rest := [.int 0, .ref oL]) ⟨hx, hb, hml, hown, hts⟩ (k_X6_read l hl0 dC dI cI xO pO mS mA dS dA cO iA oA kO fO aO rA H.size u a1) (cwV 1 hts gL_read_X6_read rfl rfl rfl (by decide +kernel) ⟨Nat.le_of_ble_eq_true rfl, Nat.le_of_ble_eq_true rfl⟩) ⟨fun a U g mk q => by obtain ⟨q0, q1, qP, qK, qD, qT⟩ := q; exact ⟨q0, q1, qP, va_K.moved (u := U) (U := U.calling g mk a) (Vm.Alike.refl U.vm) qK, qD, qT.calling g mk a⟩, va_recv hKc hPc (ci := 6) (q0 := 0) rfl rfl, fun U hU hW => ⟨rfl, by rw [hU], by rw [hU]; exact hPc, va_K.moved hW.alike hKc, hDc.weaken (fun _ _ _ _ => trivial), hT.to hS hFc hU hW⟩⟩ rfl rfl hl.1 rfl (lv_room (Nat.le_of_ble_eq_true rfl)) dL_read_4 ⟨Nat.le_of_ble_eq_true rfl, Nat.le_of_ble_eq_true rfl⟩) hS (fun q _ h => hFc q h) hFc (fun q _ h => hFc q h) (fun E ce q9 u9 t H1 locs ht hvm hw hB hz1 hk1 hS hce hcv hcl => ?_) (fun r9 u9 t H1 locs ht hvm hw hB hz1 hk1 hS => ?_)
  · obtain ⟨hw1, hw2⟩ := hw
    have hw2 := hw2.symm
    subst hw2
    obtain ⟨rfl, hP1, hK1, hD1⟩ := hB
    rw [ht] at hP1
    obtain ⟨hP, hD⟩ := jL_X hP hD hk1 hFc hP1 hD1
    refine cx_catch (x := ⟨0, 9, 12, 13⟩) hown htab (by decide) (by decide) (hts _ qL_read_0) (va_Nw.use rfl (hT.2.2 _ (by decide +kernel))) hce hcv hcl ?_
    refine lv_astore_n (lv' := [(3, .ref q9), (0, .ref xO), (1, .int a1), (2, .ref oL)]) hx hb dL_read_12 rfl hl (by decide) rfl (fun ls hl => ?_)
    refine lv_iconst (v := 1) hx hb dL_read_13 (by decide) ?_
    refine W.widen (k := 1) (n := 6) (Nat.le_of_ble_eq_true rfl) (Nat.le_of_ble_eq_true rfl) ?_
    exact W.iret (v := 1) hx hb hr (fun t ht hW => ⟨⟨1, (u, g), rfl, (by simp only [f_L_read, hw1]), by rw [ht]; exact hP, va_K.moved hW.alike hK, hD⟩, hS.F ht⟩) hS.2.2 dL_read_14
  · obtain ⟨hw1, hw2⟩ := hw
    have hw2 := hw2.symm
    subst hw2
    obtain ⟨hP1, hK1, hD1⟩ := hB
    rw [ht] at hP1
    obtain ⟨hP, hD⟩ := jL_X hP hD hk1 hFc hP1 hD1
    refine lv_i2l (v := (r9).toInt64) hx hb dL_read_7 rfl ?_
    refine va_last (f := g) hx hb hK hP hD hS 0 1 rfl rfl (ix_lit (by decide)) dL_read_8 (fun H locs hP hD hS => ?_)
    have hP : va_P (dC, dI) vwCl (wLx cI cJ oL xO pO mS mA dS dA cO iA oA kO fO aO rA u (vp_updL g (0 : Int32).toNatClampNeg (r9).toInt64)) H := hP
    have hD : va_D A (wLx cI cJ oL xO pO mS mA dS dA cO iA oA kO fO aO rA u (vp_updL g (0 : Int32).toNatClampNeg (r9).toInt64)) := hD
    refine lv_goto (tgt := 15) hx hb dL_read_9 (by decide) ?_
    refine lv_iconst (v := 0) hx hb dL_read_15 (by decide) ?_
    refine W.widen (k := 1) (n := 6) (Nat.le_of_ble_eq_true rfl) (Nat.le_of_ble_eq_true rfl) ?_
    exact W.iret (v := 0) hx hb hr (fun t ht hW => ⟨⟨0, (u, (vp_updL g (0 : Int32).toNatClampNeg (r9).toInt64)), rfl, (by simp only [f_L_read, ← hw1]), by rw [ht]; exact hP, va_K.moved hW.alike hK, hD⟩, hS.F ht⟩) hS.2.2 dL_read_16

def f_L_writeDisk (u : PW) (g : Nat → Int64) (a1 : Int32) (a2 : Int32) : Int32 × PW × (Nat → Int64) := match (f_X6_writeDisk u a1 a2) with
  | none => (1, u, g)
  | some x => (0, x.2, vp_updL g (0 : Int32).toNatClampNeg (x.1).toInt64)
theorem qL_writeDisk_0 : Cond.classLink RL 13 "java/lang/IllegalArgumentException" ∈ wsL_writeDisk := by decide +kernel
set_option maxHeartbeats 4000000 in
set_option maxRecDepth 100000 in
theorem k_L_writeDisk (l : Launch) (hl0 : l.stackTraces = false) (dC : Nat → ClassId) (dI : Nat → Nat → Nat) (cI cJ : ClassId) (oL xO pO mS mA dS dA cO iA oA kO fO aO rA : Nat) (sz : Nat) (u : PW) (g : Nat → Int64) (a1 : Int32) (a2 : Int32) : Met l yL_writeDisk wsL_writeDisk ({ frames := 7, cells := 1, slots := 6, locals := 103 }) (va_Pc [.ref xO, .int a1, .int a2, .ref oL] (wBX dC dI [(cI, .int), (cJ, .long)] sz (wLx cI cJ oL xO pO mS mA dS dA cO iA oA kO fO aO rA u g))) (va_Qi (fun (r : Int32) (x' : PW × (Nat → Int64)) => (r, x') = (f_L_writeDisk u g a1 a2)) (fun x' => wE dC dI [(cI, .int), (cJ, .long)] (va_A (wLx cI cJ oL xO pO mS mA dS dA cO iA oA kO fO aO rA u g) sz) (wLx cI cJ oL xO pO mS mA dS dA cO iA oA kO fO aO rA x'.1 x'.2)) (va_A (wLx cI cJ oL xO pO mS mA dS dA cO iA oA kO fO aO rA u g) sz)) 1 6 (va_A (wLx cI cJ oL xO pO mS mA dS dA cO iA oA kO fO aO rA u g) sz) := by
  refine va_MetW (cc := cL_writeDisk) (maxL := 5) (ret := (some .int)) (hh := [(0, 10, 13, 13)]) (by decide) rfl ?_
  intro p e s m args below meth c s₁ B hml hv
  obtain ⟨rfl, hsz, hP, hK, hD0, hT⟩ := hv
  have hx := B.exec
  have hb := B.bytes
  have hr := B.returns
  have hts := atoms_spec (ws := wsL_writeDisk) B.pre
  have htab := vx_table (x := yL_writeDisk) B (hts _ (List.mem_cons_self : Cond.codeWith yL_writeDisk cL_writeDisk 5 (some .int) [(0, 10, 13, 13)] ∈ wsL_writeDisk))
  have hown : s.vm.findClass RL = some m.cls := findClass_of_methodNamed B.named
  have hlocks := B.notSynchronized
  subst hsz
  have hD := hD0.self (sz := s.heap.size)
  generalize hAe : va_A (wLx cI cJ oL xO pO mS mA dS dA cO iA oA kO fO aO rA u g) s.heap.size = A at hD hT ⊢
  have hA : ∀ q : Nat, s.heap.size ≤ q → A q := fun q h => by rw [← hAe]; exact Or.inr h
  have hS : va_S A s.heap s.heap [] := va_S.rf
  have hP : va_P (dC, dI) vwCl (wLx cI cJ oL xO pO mS mA dS dA cO iA oA kO fO aO rA u g) s.heap := hP
  clear hAe hD0
  have hl := lv_entry ([.ref xO, .int a1, .int a2, .ref oL]) (n := 5) (Nat.le_of_ble_eq_true rfl)
  rw [lg_entry_eq]
  generalize (lg_sl ([.ref xO, .int a1, .int a2, .ref oL]) ++ List.replicate (5 - (lg_sl ([.ref xO, .int a1, .int a2, .ref oL])).length) Slot.unset).toArray = ls at hl ⊢
  have hl : lv_has ls 5 [(0, .ref xO), (1, .int a1), (2, .int a2), (3, .ref oL)] := hl
  refine jn_H hP hS (fun H locs hP hS => ?_)
  refine lv_aload_n hx hb dL_writeDisk_0 rfl (lv_at hl 3 rfl) ?_
  refine lv_iconst (v := 0) hx hb dL_writeDisk_1 (by decide) ?_
  refine lv_aload_n hx hb dL_writeDisk_2 rfl (lv_at hl 0 rfl) ?_
  refine lv_iload_n hx hb dL_writeDisk_3 rfl (lv_at hl 1 rfl) ?_
  refine lv_iload_n hx hb dL_writeDisk_4 rfl (lv_at hl 2 rfl) ?_
  obtain ⟨hPc, hDc, hFc⟩ := xL_X hP hD hS hA
  have hKc := hK.sub (tys' := [(cI, .int)]) [0] rfl
  refine vx_calli (vx_runV (As := [.int a1, .int a2]) (rest := [.int 0, .ref oL]) ⟨hx, hb, hml, hown, hts⟩ (k_X6_writeDisk l hl0 dC dI cI xO pO mS mA dS dA cO iA oA kO fO aO rA H.size u a1 a2) (cwV 2 hts gL_writeDisk_X6_writeDisk rfl rfl rfl (by decide +kernel) ⟨Nat.le_of_ble_eq_true rfl, Nat.le_of_ble_eq_true rfl⟩) ⟨fun a U g mk q => by obtain ⟨q0, q1, qP, qK, qD, qT⟩ := q; exact ⟨q0, q1, qP, va_K.moved (u := U) (U := U.calling g mk a) (Vm.Alike.refl U.vm) qK, qD, qT.calling g mk a⟩, va_recv hKc hPc (ci := 6) (q0 := 0) rfl rfl, fun U hU hW => ⟨rfl, by rw [hU], by rw [hU]; exact hPc, va_K.moved hW.alike hKc, hDc.weaken (fun _ _ _ _ => trivial), hT.to hS hFc hU hW⟩⟩ rfl rfl hl.1 rfl (lv_room (Nat.le_of_ble_eq_true rfl)) dL_writeDisk_5 ⟨Nat.le_of_ble_eq_true rfl, Nat.le_of_ble_eq_true rfl⟩) hS (fun q _ h => hFc q h) hFc (fun q _ h => hFc q h) (fun E ce q9 u9 t H1 locs ht hvm hw hB hz1 hk1 hS hce hcv hcl => ?_) (fun r9 u9 t H1 locs ht hvm hw hB hz1 hk1 hS => ?_)
  · obtain ⟨hw1, hw2⟩ := hw
    have hw2 := hw2.symm
    subst hw2
    obtain ⟨rfl, hP1, hK1, hD1⟩ := hB
    rw [ht] at hP1
    obtain ⟨hP, hD⟩ := jL_X hP hD hk1 hFc hP1 hD1
    refine cx_catch (x := ⟨0, 10, 13, 13⟩) hown htab (by decide) (by decide) (hts _ qL_writeDisk_0) (va_Nw.use rfl (hT.2.2 _ (by decide +kernel))) hce hcv hcl ?_
    refine lv_astore (lv' := [(4, .ref q9), (0, .ref xO), (1, .int a1), (2, .int a2), (3, .ref oL)]) hx hb dL_writeDisk_13 hl (by decide) rfl (fun ls hl => ?_)
    refine lv_iconst (v := 1) hx hb dL_writeDisk_15 (by decide) ?_
    refine W.widen (k := 1) (n := 6) (Nat.le_of_ble_eq_true rfl) (Nat.le_of_ble_eq_true rfl) ?_
    exact W.iret (v := 1) hx hb hr (fun t ht hW => ⟨⟨1, (u, g), rfl, (by simp only [f_L_writeDisk, hw1]), by rw [ht]; exact hP, va_K.moved hW.alike hK, hD⟩, hS.F ht⟩) hS.2.2 dL_writeDisk_16
  · have hw1 := hw
    obtain ⟨hP1, hK1, hD1⟩ := hB
    rw [ht] at hP1
    obtain ⟨hP, hD⟩ := jL_X hP hD hk1 hFc hP1 hD1
    refine lv_i2l (v := (r9).toInt64) hx hb dL_writeDisk_8 rfl ?_
    refine va_last (f := g) hx hb hK hP hD hS 0 1 rfl rfl (ix_lit (by decide)) dL_writeDisk_9 (fun H locs hP hD hS => ?_)
    have hP : va_P (dC, dI) vwCl (wLx cI cJ oL xO pO mS mA dS dA cO iA oA kO fO aO rA u9 (vp_updL g (0 : Int32).toNatClampNeg (r9).toInt64)) H := hP
    have hD : va_D A (wLx cI cJ oL xO pO mS mA dS dA cO iA oA kO fO aO rA u9 (vp_updL g (0 : Int32).toNatClampNeg (r9).toInt64)) := hD
    refine lv_goto (tgt := 17) hx hb dL_writeDisk_10 (by decide) ?_
    refine lv_iconst (v := 0) hx hb dL_writeDisk_17 (by decide) ?_
    refine W.widen (k := 1) (n := 6) (Nat.le_of_ble_eq_true rfl) (Nat.le_of_ble_eq_true rfl) ?_
    exact W.iret (v := 0) hx hb hr (fun t ht hW => ⟨⟨0, (u9, (vp_updL g (0 : Int32).toNatClampNeg (r9).toInt64)), rfl, (by simp only [f_L_writeDisk, ← hw1]), by rw [ht]; exact hP, va_K.moved hW.alike hK, hD⟩, hS.F ht⟩) hS.2.2 dL_writeDisk_18

def f_L_readDisk (u : PW) (g : Nat → Int64) (a1 : Int32) : Int32 × PW × (Nat → Int64) := match (f_X6_readDisk u a1) with
  | none => (1, u, g)
  | some r => (0, u, vp_updL g (0 : Int32).toNatClampNeg (r).toInt64)
theorem qL_readDisk_0 : Cond.classLink RL 13 "java/lang/IllegalArgumentException" ∈ wsL_readDisk := by decide +kernel
set_option maxHeartbeats 4000000 in
set_option maxRecDepth 100000 in
theorem k_L_readDisk (l : Launch) (hl0 : l.stackTraces = false) (dC : Nat → ClassId) (dI : Nat → Nat → Nat) (cI cJ : ClassId) (oL xO pO mS mA dS dA cO iA oA kO fO aO rA : Nat) (sz : Nat) (u : PW) (g : Nat → Int64) (a1 : Int32) : Met l yL_readDisk wsL_readDisk ({ frames := 7, cells := 1, slots := 6, locals := 102 }) (va_Pc [.ref xO, .int a1, .ref oL] (wBX dC dI [(cI, .int), (cJ, .long)] sz (wLx cI cJ oL xO pO mS mA dS dA cO iA oA kO fO aO rA u g))) (va_Qi (fun (r : Int32) (x' : PW × (Nat → Int64)) => (r, x') = (f_L_readDisk u g a1)) (fun x' => wE dC dI [(cI, .int), (cJ, .long)] (va_A (wLx cI cJ oL xO pO mS mA dS dA cO iA oA kO fO aO rA u g) sz) (wLx cI cJ oL xO pO mS mA dS dA cO iA oA kO fO aO rA x'.1 x'.2)) (va_A (wLx cI cJ oL xO pO mS mA dS dA cO iA oA kO fO aO rA u g) sz)) 1 6 (va_A (wLx cI cJ oL xO pO mS mA dS dA cO iA oA kO fO aO rA u g) sz) := by
  refine va_MetW (cc := cL_readDisk) (maxL := 4) (ret := (some .int)) (hh := [(0, 9, 12, 13)]) (by decide) rfl ?_
  intro p e s m args below meth c s₁ B hml hv
  obtain ⟨rfl, hsz, hP, hK, hD0, hT⟩ := hv
  have hx := B.exec
  have hb := B.bytes
  have hr := B.returns
  have hts := atoms_spec (ws := wsL_readDisk) B.pre
  have htab := vx_table (x := yL_readDisk) B (hts _ (List.mem_cons_self : Cond.codeWith yL_readDisk cL_readDisk 4 (some .int) [(0, 9, 12, 13)] ∈ wsL_readDisk))
  have hown : s.vm.findClass RL = some m.cls := findClass_of_methodNamed B.named
  have hlocks := B.notSynchronized
  subst hsz
  have hD := hD0.self (sz := s.heap.size)
  generalize hAe : va_A (wLx cI cJ oL xO pO mS mA dS dA cO iA oA kO fO aO rA u g) s.heap.size = A at hD hT ⊢
  have hA : ∀ q : Nat, s.heap.size ≤ q → A q := fun q h => by rw [← hAe]; exact Or.inr h
  have hS : va_S A s.heap s.heap [] := va_S.rf
  have hP : va_P (dC, dI) vwCl (wLx cI cJ oL xO pO mS mA dS dA cO iA oA kO fO aO rA u g) s.heap := hP
  clear hAe hD0
  have hl := lv_entry ([.ref xO, .int a1, .ref oL]) (n := 4) (Nat.le_of_ble_eq_true rfl)
  rw [lg_entry_eq]
  generalize (lg_sl ([.ref xO, .int a1, .ref oL]) ++ List.replicate (4 - (lg_sl ([.ref xO, .int a1, .ref oL])).length) Slot.unset).toArray = ls at hl ⊢
  have hl : lv_has ls 4 [(0, .ref xO), (1, .int a1), (2, .ref oL)] := hl
  refine jn_H hP hS (fun H locs hP hS => ?_)
  refine lv_aload_n hx hb dL_readDisk_0 rfl (lv_at hl 2 rfl) ?_
  refine lv_iconst (v := 0) hx hb dL_readDisk_1 (by decide) ?_
  refine lv_aload_n hx hb dL_readDisk_2 rfl (lv_at hl 0 rfl) ?_
  refine lv_iload_n hx hb dL_readDisk_3 rfl (lv_at hl 1 rfl) ?_
  obtain ⟨hPc, hDc, hFc⟩ := xL_X hP hD hS hA
  have hKc := hK.sub (tys' := [(cI, .int)]) [0] rfl
  refine vx_calli (vx_runV (As := [.int a1]) (rest := [.int 0, .ref oL]) ⟨hx, hb, hml, hown, hts⟩ (k_X6_readDisk l hl0 dC dI cI xO pO mS mA dS dA cO iA oA kO fO aO rA H.size u a1) (cwV 1 hts gL_readDisk_X6_readDisk rfl rfl rfl (by decide +kernel) ⟨Nat.le_of_ble_eq_true rfl, Nat.le_of_ble_eq_true rfl⟩) ⟨fun a U g mk q => by obtain ⟨q0, q1, qP, qK, qD, qT⟩ := q; exact ⟨q0, q1, qP, va_K.moved (u := U) (U := U.calling g mk a) (Vm.Alike.refl U.vm) qK, qD, qT.calling g mk a⟩, va_recv hKc hPc (ci := 6) (q0 := 0) rfl rfl, fun U hU hW => ⟨rfl, by rw [hU], by rw [hU]; exact hPc, va_K.moved hW.alike hKc, hDc.weaken (fun _ _ _ _ => trivial), hT.to hS hFc hU hW⟩⟩ rfl rfl hl.1 rfl (lv_room (Nat.le_of_ble_eq_true rfl)) dL_readDisk_4 ⟨Nat.le_of_ble_eq_true rfl, Nat.le_of_ble_eq_true rfl⟩) hS (fun q _ h => hFc q h) hFc (fun q _ h => hFc q h) (fun E ce q9 u9 t H1 locs ht hvm hw hB hz1 hk1 hS hce hcv hcl => ?_) (fun r9 u9 t H1 locs ht hvm hw hB hz1 hk1 hS => ?_)
  · obtain ⟨hw1, hw2⟩ := hw
    have hw2 := hw2.symm
    subst hw2
    obtain ⟨rfl, hP1, hK1, hD1⟩ := hB
    rw [ht] at hP1
    obtain ⟨hP, hD⟩ := jL_X hP hD hk1 hFc hP1 hD1
    refine cx_catch (x := ⟨0, 9, 12, 13⟩) hown htab (by decide) (by decide) (hts _ qL_readDisk_0) (va_Nw.use rfl (hT.2.2 _ (by decide +kernel))) hce hcv hcl ?_
    refine lv_astore_n (lv' := [(3, .ref q9), (0, .ref xO), (1, .int a1), (2, .ref oL)]) hx hb dL_readDisk_12 rfl hl (by decide) rfl (fun ls hl => ?_)
    refine lv_iconst (v := 1) hx hb dL_readDisk_13 (by decide) ?_
    refine W.widen (k := 1) (n := 6) (Nat.le_of_ble_eq_true rfl) (Nat.le_of_ble_eq_true rfl) ?_
    exact W.iret (v := 1) hx hb hr (fun t ht hW => ⟨⟨1, (u, g), rfl, (by simp only [f_L_readDisk, hw1]), by rw [ht]; exact hP, va_K.moved hW.alike hK, hD⟩, hS.F ht⟩) hS.2.2 dL_readDisk_14
  · obtain ⟨hw1, hw2⟩ := hw
    have hw2 := hw2.symm
    subst hw2
    obtain ⟨hP1, hK1, hD1⟩ := hB
    rw [ht] at hP1
    obtain ⟨hP, hD⟩ := jL_X hP hD hk1 hFc hP1 hD1
    refine lv_i2l (v := (r9).toInt64) hx hb dL_readDisk_7 rfl ?_
    refine va_last (f := g) hx hb hK hP hD hS 0 1 rfl rfl (ix_lit (by decide)) dL_readDisk_8 (fun H locs hP hD hS => ?_)
    have hP : va_P (dC, dI) vwCl (wLx cI cJ oL xO pO mS mA dS dA cO iA oA kO fO aO rA u (vp_updL g (0 : Int32).toNatClampNeg (r9).toInt64)) H := hP
    have hD : va_D A (wLx cI cJ oL xO pO mS mA dS dA cO iA oA kO fO aO rA u (vp_updL g (0 : Int32).toNatClampNeg (r9).toInt64)) := hD
    refine lv_goto (tgt := 15) hx hb dL_readDisk_9 (by decide) ?_
    refine lv_iconst (v := 0) hx hb dL_readDisk_15 (by decide) ?_
    refine W.widen (k := 1) (n := 6) (Nat.le_of_ble_eq_true rfl) (Nat.le_of_ble_eq_true rfl) ?_
    exact W.iret (v := 0) hx hb hr (fun t ht hW => ⟨⟨0, (u, (vp_updL g (0 : Int32).toNatClampNeg (r9).toInt64)), rfl, (by simp only [f_L_readDisk, ← hw1]), by rw [ht]; exact hP, va_K.moved hW.alike hK, hD⟩, hS.F ht⟩) hS.2.2 dL_readDisk_16

def f_L_register (u : PW) (g : Nat → Int64) (a1 : Int32) : Int32 × PW × (Nat → Int64) := match (f_X6_register u a1) with
  | none => (1, u, g)
  | some r => (0, u, vp_updL g (0 : Int32).toNatClampNeg (r).toInt64)
theorem qL_register_0 : Cond.classLink RL 28 "java/lang/IndexOutOfBoundsException" ∈ wsL_register := by decide +kernel
set_option maxHeartbeats 4000000 in
set_option maxRecDepth 100000 in
theorem k_L_register (l : Launch) (hl0 : l.stackTraces = false) (dC : Nat → ClassId) (dI : Nat → Nat → Nat) (cI cJ : ClassId) (oL xO pO mS mA dS dA cO iA oA kO fO aO rA : Nat) (sz : Nat) (u : PW) (g : Nat → Int64) (a1 : Int32) : Met l yL_register wsL_register ({ frames := 7, cells := 1, slots := 6, locals := 102 }) (va_Pc [.ref xO, .int a1, .ref oL] (wBX dC dI [(cI, .int), (cJ, .long)] sz (wLx cI cJ oL xO pO mS mA dS dA cO iA oA kO fO aO rA u g))) (va_Qi (fun (r : Int32) (x' : PW × (Nat → Int64)) => (r, x') = (f_L_register u g a1)) (fun x' => wE dC dI [(cI, .int), (cJ, .long)] (va_A (wLx cI cJ oL xO pO mS mA dS dA cO iA oA kO fO aO rA u g) sz) (wLx cI cJ oL xO pO mS mA dS dA cO iA oA kO fO aO rA x'.1 x'.2)) (va_A (wLx cI cJ oL xO pO mS mA dS dA cO iA oA kO fO aO rA u g) sz)) 1 6 (va_A (wLx cI cJ oL xO pO mS mA dS dA cO iA oA kO fO aO rA u g) sz) := by
  refine va_MetW (cc := cL_register) (maxL := 4) (ret := (some .int)) (hh := [(0, 9, 12, 28)]) (by decide) rfl ?_
  intro p e s m args below meth c s₁ B hml hv
  obtain ⟨rfl, hsz, hP, hK, hD0, hT⟩ := hv
  have hx := B.exec
  have hb := B.bytes
  have hr := B.returns
  have hts := atoms_spec (ws := wsL_register) B.pre
  have htab := vx_table (x := yL_register) B (hts _ (List.mem_cons_self : Cond.codeWith yL_register cL_register 4 (some .int) [(0, 9, 12, 28)] ∈ wsL_register))
  have hown : s.vm.findClass RL = some m.cls := findClass_of_methodNamed B.named
  have hlocks := B.notSynchronized
  subst hsz
  have hD := hD0.self (sz := s.heap.size)
  generalize hAe : va_A (wLx cI cJ oL xO pO mS mA dS dA cO iA oA kO fO aO rA u g) s.heap.size = A at hD hT ⊢
  have hA : ∀ q : Nat, s.heap.size ≤ q → A q := fun q h => by rw [← hAe]; exact Or.inr h
  have hS : va_S A s.heap s.heap [] := va_S.rf
  have hP : va_P (dC, dI) vwCl (wLx cI cJ oL xO pO mS mA dS dA cO iA oA kO fO aO rA u g) s.heap := hP
  clear hAe hD0
  have hl := lv_entry ([.ref xO, .int a1, .ref oL]) (n := 4) (Nat.le_of_ble_eq_true rfl)
  rw [lg_entry_eq]
  generalize (lg_sl ([.ref xO, .int a1, .ref oL]) ++ List.replicate (4 - (lg_sl ([.ref xO, .int a1, .ref oL])).length) Slot.unset).toArray = ls at hl ⊢
  have hl : lv_has ls 4 [(0, .ref xO), (1, .int a1), (2, .ref oL)] := hl
  refine jn_H hP hS (fun H locs hP hS => ?_)
  refine lv_aload_n hx hb dL_register_0 rfl (lv_at hl 2 rfl) ?_
  refine lv_iconst (v := 0) hx hb dL_register_1 (by decide) ?_
  refine lv_aload_n hx hb dL_register_2 rfl (lv_at hl 0 rfl) ?_
  refine lv_iload_n hx hb dL_register_3 rfl (lv_at hl 1 rfl) ?_
  obtain ⟨hPc, hDc, hFc⟩ := xL_X hP hD hS hA
  have hKc := hK.sub (tys' := [(cI, .int)]) [0] rfl
  refine vx_calli (vx_runV (As := [.int a1]) (rest := [.int 0, .ref oL]) ⟨hx, hb, hml, hown, hts⟩ (k_X6_register l hl0 dC dI cI xO pO mS mA dS dA cO iA oA kO fO aO rA H.size u a1) (cwV 1 hts gL_register_X6_register rfl rfl rfl (by decide +kernel) ⟨Nat.le_of_ble_eq_true rfl, Nat.le_of_ble_eq_true rfl⟩) ⟨fun a U g mk q => by obtain ⟨q0, q1, qP, qK, qD, qT⟩ := q; exact ⟨q0, q1, qP, va_K.moved (u := U) (U := U.calling g mk a) (Vm.Alike.refl U.vm) qK, qD, qT.calling g mk a⟩, va_recv hKc hPc (ci := 6) (q0 := 0) rfl rfl, fun U hU hW => ⟨rfl, by rw [hU], by rw [hU]; exact hPc, va_K.moved hW.alike hKc, hDc.weaken (fun _ _ _ _ => trivial), hT.to hS hFc hU hW⟩⟩ rfl rfl hl.1 rfl (lv_room (Nat.le_of_ble_eq_true rfl)) dL_register_4 ⟨Nat.le_of_ble_eq_true rfl, Nat.le_of_ble_eq_true rfl⟩) hS (fun q _ h => hFc q h) hFc (fun q _ h => hFc q h) (fun E ce q9 u9 t H1 locs ht hvm hw hB hz1 hk1 hS hce hcv hcl => ?_) (fun r9 u9 t H1 locs ht hvm hw hB hz1 hk1 hS => ?_)
  · obtain ⟨hw1, hw2⟩ := hw
    have hw2 := hw2.symm
    subst hw2
    obtain ⟨rfl, hP1, hK1, hD1⟩ := hB
    rw [ht] at hP1
    obtain ⟨hP, hD⟩ := jL_X hP hD hk1 hFc hP1 hD1
    refine cx_catch (x := ⟨0, 9, 12, 28⟩) hown htab (by decide) (by decide) (hts _ qL_register_0) (va_Nw.use rfl (hT.2.2 _ (by decide +kernel))) hce hcv hcl ?_
    refine lv_astore_n (lv' := [(3, .ref q9), (0, .ref xO), (1, .int a1), (2, .ref oL)]) hx hb dL_register_12 rfl hl (by decide) rfl (fun ls hl => ?_)
    refine lv_iconst (v := 1) hx hb dL_register_13 (by decide) ?_
    refine W.widen (k := 1) (n := 6) (Nat.le_of_ble_eq_true rfl) (Nat.le_of_ble_eq_true rfl) ?_
    exact W.iret (v := 1) hx hb hr (fun t ht hW => ⟨⟨1, (u, g), rfl, (by simp only [f_L_register, hw1]), by rw [ht]; exact hP, va_K.moved hW.alike hK, hD⟩, hS.F ht⟩) hS.2.2 dL_register_14
  · obtain ⟨hw1, hw2⟩ := hw
    have hw2 := hw2.symm
    subst hw2
    obtain ⟨hP1, hK1, hD1⟩ := hB
    rw [ht] at hP1
    obtain ⟨hP, hD⟩ := jL_X hP hD hk1 hFc hP1 hD1
    refine lv_i2l (v := (r9).toInt64) hx hb dL_register_7 rfl ?_
    refine va_last (f := g) hx hb hK hP hD hS 0 1 rfl rfl (ix_lit (by decide)) dL_register_8 (fun H locs hP hD hS => ?_)
    have hP : va_P (dC, dI) vwCl (wLx cI cJ oL xO pO mS mA dS dA cO iA oA kO fO aO rA u (vp_updL g (0 : Int32).toNatClampNeg (r9).toInt64)) H := hP
    have hD : va_D A (wLx cI cJ oL xO pO mS mA dS dA cO iA oA kO fO aO rA u (vp_updL g (0 : Int32).toNatClampNeg (r9).toInt64)) := hD
    refine lv_goto (tgt := 15) hx hb dL_register_9 (by decide) ?_
    refine lv_iconst (v := 0) hx hb dL_register_15 (by decide) ?_
    refine W.widen (k := 1) (n := 6) (Nat.le_of_ble_eq_true rfl) (Nat.le_of_ble_eq_true rfl) ?_
    exact W.iret (v := 0) hx hb hr (fun t ht hW => ⟨⟨0, (u, (vp_updL g (0 : Int32).toNatClampNeg (r9).toInt64)), rfl, (by simp only [f_L_register, ← hw1]), by rw [ht]; exact hP, va_K.moved hW.alike hK, hD⟩, hS.F ht⟩) hS.2.2 dL_register_16

def f_L_put (u : PW) (a1 : Int32) (a2 : Int32) : Int32 × PW := match (f_X6_put u a1 a2) with
  | none => (1, u)
  | some x => (0, x)
theorem qL_put_0 : Cond.classLink RL 28 "java/lang/IndexOutOfBoundsException" ∈ wsL_put := by decide +kernel
set_option maxHeartbeats 4000000 in
set_option maxRecDepth 100000 in
theorem k_L_put (l : Launch) (hl0 : l.stackTraces = false) (dC : Nat → ClassId) (dI : Nat → Nat → Nat) (cI : ClassId) (xO pO mS mA dS dA cO iA oA kO fO aO rA : Nat) (sz : Nat) (u : PW) (a1 : Int32) (a2 : Int32) : Met l yL_put wsL_put ({ frames := 7, cells := 1, slots := 6, locals := 103 }) (va_Pc [.ref xO, .int a1, .int a2] (wBX dC dI [(cI, .int)] sz (wX cI xO pO mS mA dS dA cO iA oA kO fO aO rA u))) (va_Qi (fun (r : Int32) (x' : PW) => (r, x') = (f_L_put u a1 a2)) (fun x' => wE dC dI [(cI, .int)] (va_A (wX cI xO pO mS mA dS dA cO iA oA kO fO aO rA u) sz) (wX cI xO pO mS mA dS dA cO iA oA kO fO aO rA x')) (va_A (wX cI xO pO mS mA dS dA cO iA oA kO fO aO rA u) sz)) 1 6 (va_A (wX cI xO pO mS mA dS dA cO iA oA kO fO aO rA u) sz) := by
  refine va_MetW (cc := cL_put) (maxL := 4) (ret := (some .int)) (hh := [(0, 6, 9, 28)]) (by decide) rfl ?_
  intro p e s m args below meth c s₁ B hml hv
  obtain ⟨rfl, hsz, hP, hK, hD0, hT⟩ := hv
  have hx := B.exec
  have hb := B.bytes
  have hr := B.returns
  have hts := atoms_spec (ws := wsL_put) B.pre
  have htab := vx_table (x := yL_put) B (hts _ (List.mem_cons_self : Cond.codeWith yL_put cL_put 4 (some .int) [(0, 6, 9, 28)] ∈ wsL_put))
  have hown : s.vm.findClass RL = some m.cls := findClass_of_methodNamed B.named
  have hlocks := B.notSynchronized
  subst hsz
  have hD := hD0.self (sz := s.heap.size)
  generalize hAe : va_A (wX cI xO pO mS mA dS dA cO iA oA kO fO aO rA u) s.heap.size = A at hD hT ⊢
  have hA : ∀ q : Nat, s.heap.size ≤ q → A q := fun q h => by rw [← hAe]; exact Or.inr h
  have hS : va_S A s.heap s.heap [] := va_S.rf
  have hP : va_P (dC, dI) vwCl (wX cI xO pO mS mA dS dA cO iA oA kO fO aO rA u) s.heap := hP
  clear hAe hD0
  have hl := lv_entry ([.ref xO, .int a1, .int a2]) (n := 4) (Nat.le_of_ble_eq_true rfl)
  rw [lg_entry_eq]
  generalize (lg_sl ([.ref xO, .int a1, .int a2]) ++ List.replicate (4 - (lg_sl ([.ref xO, .int a1, .int a2])).length) Slot.unset).toArray = ls at hl ⊢
  have hl : lv_has ls 4 [(0, .ref xO), (1, .int a1), (2, .int a2)] := hl
  refine jn_H hP hS (fun H locs hP hS => ?_)
  refine lv_aload_n hx hb dL_put_0 rfl (lv_at hl 0 rfl) ?_
  refine lv_iload_n hx hb dL_put_1 rfl (lv_at hl 1 rfl) ?_
  refine lv_iload_n hx hb dL_put_2 rfl (lv_at hl 2 rfl) ?_
  obtain ⟨hPc, hDc, hFc⟩ := xX_X hP hD hS hA
  have hKc := hK.sub (tys' := [(cI, .int)]) [0] rfl
  refine vx_callv (vx_runV (As := [.int a1, .int a2]) (rest := []) ⟨hx, hb, hml, hown, hts⟩ (k_X6_put l hl0 dC dI cI xO pO mS mA dS dA cO iA oA kO fO aO rA H.size u a1 a2) (cwV 2 hts gL_put_X6_put rfl rfl rfl (by decide +kernel) ⟨Nat.le_of_ble_eq_true rfl, Nat.le_of_ble_eq_true rfl⟩) ⟨fun a U g mk q => by obtain ⟨q0, q1, qP, qK, qD, qT⟩ := q; exact ⟨q0, q1, qP, va_K.moved (u := U) (U := U.calling g mk a) (Vm.Alike.refl U.vm) qK, qD, qT.calling g mk a⟩, va_recv hKc hPc (ci := 6) (q0 := 0) rfl rfl, fun U hU hW => ⟨rfl, by rw [hU], by rw [hU]; exact hPc, va_K.moved hW.alike hKc, hDc.weaken (fun _ _ _ _ => trivial), hT.to hS hFc hU hW⟩⟩ rfl rfl hl.1 rfl (lv_room (Nat.le_of_ble_eq_true rfl)) dL_put_3 ⟨Nat.le_of_ble_eq_true rfl, Nat.le_of_ble_eq_true rfl⟩) hS (fun q _ h => hFc q h) hFc (fun q _ h => hFc q h) (fun E ce q9 u9 t H1 locs ht hvm hw hB hz1 hk1 hS hce hcv hcl => ?_) (fun u9 t H1 locs ht hvm hw hB hz1 hk1 hS => ?_)
  · obtain ⟨hw1, hw2⟩ := hw
    have hw2 := hw2.symm
    subst hw2
    obtain ⟨rfl, hP1, hK1, hD1⟩ := hB
    rw [ht] at hP1
    obtain ⟨hP, hD⟩ := jX_X hP hD hk1 hFc hP1 hD1
    refine cx_catch (x := ⟨0, 6, 9, 28⟩) hown htab (by decide) (by decide) (hts _ qL_put_0) (va_Nw.use rfl (hT.2.2 _ (by decide +kernel))) hce hcv hcl ?_
    refine lv_astore_n (lv' := [(3, .ref q9), (0, .ref xO), (1, .int a1), (2, .int a2)]) hx hb dL_put_9 rfl hl (by decide) rfl (fun ls hl => ?_)
    refine lv_iconst (v := 1) hx hb dL_put_10 (by decide) ?_
    refine W.widen (k := 1) (n := 6) (Nat.le_of_ble_eq_true rfl) (Nat.le_of_ble_eq_true rfl) ?_
    exact W.iret (v := 1) hx hb hr (fun t ht hW => ⟨⟨1, u, rfl, (by simp only [f_L_put, hw1]), by rw [ht]; exact hP, va_K.moved hW.alike hK, hD⟩, hS.F ht⟩) hS.2.2 dL_put_11
  · have hw1 := hw
    obtain ⟨hP1, hK1, hD1⟩ := hB
    rw [ht] at hP1
    obtain ⟨hP, hD⟩ := jX_X hP hD hk1 hFc hP1 hD1
    refine lv_goto (tgt := 12) hx hb dL_put_6 (by decide) ?_
    refine lv_iconst (v := 0) hx hb dL_put_12 (by decide) ?_
    refine W.widen (k := 1) (n := 6) (Nat.le_of_ble_eq_true rfl) (Nat.le_of_ble_eq_true rfl) ?_
    exact W.iret (v := 0) hx hb hr (fun t ht hW => ⟨⟨0, u9, rfl, (by simp only [f_L_put, ← hw1]), by rw [ht]; exact hP, va_K.moved hW.alike hK, hD⟩, hS.F ht⟩) hS.2.2 dL_put_13

def f_L_type (u : PW) (g : Nat → Int64) (a1 : Int32) : Int32 × PW × (Nat → Int64) := match (f_X6_type u a1) with
  | none => (1, u, g)
  | some x => (0, x.2, vp_updL g (0 : Int32).toNatClampNeg (x.1).toInt64)
theorem qL_type_0 : Cond.classLink RL 13 "java/lang/IllegalArgumentException" ∈ wsL_type := by decide +kernel
set_option maxHeartbeats 4000000 in
set_option maxRecDepth 100000 in
theorem k_L_type (l : Launch) (hl0 : l.stackTraces = false) (dC : Nat → ClassId) (dI : Nat → Nat → Nat) (cI cJ : ClassId) (oL xO pO mS mA dS dA cO iA oA kO fO aO rA : Nat) (sz : Nat) (u : PW) (g : Nat → Int64) (a1 : Int32) (hC : ∃ i j : Nat, i < 64 ∧ j ≤ 64 ∧ gCS_fst (gPW_C u) = nI i ∧ gCS_cnt (gPW_C u) = nI j) : Met l yL_type wsL_type ({ frames := 7, cells := 1, slots := 6, locals := 102 }) (va_Pc [.ref xO, .int a1, .ref oL] (wBX dC dI [(cI, .int), (cJ, .long)] sz (wLx cI cJ oL xO pO mS mA dS dA cO iA oA kO fO aO rA u g))) (va_Qi (fun (r : Int32) (x' : PW × (Nat → Int64)) => (r, x') = (f_L_type u g a1)) (fun x' => wE dC dI [(cI, .int), (cJ, .long)] (va_A (wLx cI cJ oL xO pO mS mA dS dA cO iA oA kO fO aO rA u g) sz) (wLx cI cJ oL xO pO mS mA dS dA cO iA oA kO fO aO rA x'.1 x'.2)) (va_A (wLx cI cJ oL xO pO mS mA dS dA cO iA oA kO fO aO rA u g) sz)) 1 6 (va_A (wLx cI cJ oL xO pO mS mA dS dA cO iA oA kO fO aO rA u g) sz) := by
  refine va_MetW (cc := cL_type) (maxL := 4) (ret := (some .int)) (hh := [(0, 9, 12, 13)]) (by decide) rfl ?_
  intro p e s m args below meth c s₁ B hml hv
  obtain ⟨rfl, hsz, hP, hK, hD0, hT⟩ := hv
  have hx := B.exec
  have hb := B.bytes
  have hr := B.returns
  have hts := atoms_spec (ws := wsL_type) B.pre
  have htab := vx_table (x := yL_type) B (hts _ (List.mem_cons_self : Cond.codeWith yL_type cL_type 4 (some .int) [(0, 9, 12, 13)] ∈ wsL_type))
  have hown : s.vm.findClass RL = some m.cls := findClass_of_methodNamed B.named
  have hlocks := B.notSynchronized
  subst hsz
  have hD := hD0.self (sz := s.heap.size)
  generalize hAe : va_A (wLx cI cJ oL xO pO mS mA dS dA cO iA oA kO fO aO rA u g) s.heap.size = A at hD hT ⊢
  have hA : ∀ q : Nat, s.heap.size ≤ q → A q := fun q h => by rw [← hAe]; exact Or.inr h
  have hS : va_S A s.heap s.heap [] := va_S.rf
  have hP : va_P (dC, dI) vwCl (wLx cI cJ oL xO pO mS mA dS dA cO iA oA kO fO aO rA u g) s.heap := hP
  clear hAe hD0
  have hl := lv_entry ([.ref xO, .int a1, .ref oL]) (n := 4) (Nat.le_of_ble_eq_true rfl)
  rw [lg_entry_eq]
  generalize (lg_sl ([.ref xO, .int a1, .ref oL]) ++ List.replicate (4 - (lg_sl ([.ref xO, .int a1, .ref oL])).length) Slot.unset).toArray = ls at hl ⊢
  have hl : lv_has ls 4 [(0, .ref xO), (1, .int a1), (2, .ref oL)] := hl
  refine jn_H hP hS (fun H locs hP hS => ?_)
  refine lv_aload_n hx hb dL_type_0 rfl (lv_at hl 2 rfl) ?_
  refine lv_iconst (v := 0) hx hb dL_type_1 (by decide) ?_
  refine lv_aload_n hx hb dL_type_2 rfl (lv_at hl 0 rfl) ?_
  refine lv_iload_n hx hb dL_type_3 rfl (lv_at hl 1 rfl) ?_
  obtain ⟨hPc, hDc, hFc⟩ := xL_X hP hD hS hA
  have hKc := hK.sub (tys' := [(cI, .int)]) [0] rfl
  refine vx_calli (vx_runV (As := [.int a1]) (rest := [.int 0, .ref oL]) ⟨hx, hb, hml, hown, hts⟩ (k_X6_type l hl0 dC dI cI xO pO mS mA dS dA cO iA oA kO fO aO rA H.size u a1 hC) (cwV 1 hts gL_type_X6_type rfl rfl rfl (by decide +kernel) ⟨Nat.le_of_ble_eq_true rfl, Nat.le_of_ble_eq_true rfl⟩) ⟨fun a U g mk q => by obtain ⟨q0, q1, qP, qK, qD, qT⟩ := q; exact ⟨q0, q1, qP, va_K.moved (u := U) (U := U.calling g mk a) (Vm.Alike.refl U.vm) qK, qD, qT.calling g mk a⟩, va_recv hKc hPc (ci := 6) (q0 := 0) rfl rfl, fun U hU hW => ⟨rfl, by rw [hU], by rw [hU]; exact hPc, va_K.moved hW.alike hKc, hDc.weaken (fun _ _ _ _ => trivial), hT.to hS hFc hU hW⟩⟩ rfl rfl hl.1 rfl (lv_room (Nat.le_of_ble_eq_true rfl)) dL_type_4 ⟨Nat.le_of_ble_eq_true rfl, Nat.le_of_ble_eq_true rfl⟩) hS (fun q _ h => hFc q h) hFc (fun q _ h => hFc q h) (fun E ce q9 u9 t H1 locs ht hvm hw hB hz1 hk1 hS hce hcv hcl => ?_) (fun r9 u9 t H1 locs ht hvm hw hB hz1 hk1 hS => ?_)
  · obtain ⟨hw1, hw2⟩ := hw
    have hw2 := hw2.symm
    subst hw2
    obtain ⟨rfl, hP1, hK1, hD1⟩ := hB
    rw [ht] at hP1
    obtain ⟨hP, hD⟩ := jL_X hP hD hk1 hFc hP1 hD1
    refine cx_catch (x := ⟨0, 9, 12, 13⟩) hown htab (by decide) (by decide) (hts _ qL_type_0) (va_Nw.use rfl (hT.2.2 _ (by decide +kernel))) hce hcv hcl ?_
    refine lv_astore_n (lv' := [(3, .ref q9), (0, .ref xO), (1, .int a1), (2, .ref oL)]) hx hb dL_type_12 rfl hl (by decide) rfl (fun ls hl => ?_)
    refine lv_iconst (v := 1) hx hb dL_type_13 (by decide) ?_
    refine W.widen (k := 1) (n := 6) (Nat.le_of_ble_eq_true rfl) (Nat.le_of_ble_eq_true rfl) ?_
    exact W.iret (v := 1) hx hb hr (fun t ht hW => ⟨⟨1, (u, g), rfl, (by simp only [f_L_type, hw1]), by rw [ht]; exact hP, va_K.moved hW.alike hK, hD⟩, hS.F ht⟩) hS.2.2 dL_type_14
  · have hw1 := hw
    obtain ⟨hP1, hK1, hD1⟩ := hB
    rw [ht] at hP1
    obtain ⟨hP, hD⟩ := jL_X hP hD hk1 hFc hP1 hD1
    refine lv_i2l (v := (r9).toInt64) hx hb dL_type_7 rfl ?_
    refine va_last (f := g) hx hb hK hP hD hS 0 1 rfl rfl (ix_lit (by decide)) dL_type_8 (fun H locs hP hD hS => ?_)
    have hP : va_P (dC, dI) vwCl (wLx cI cJ oL xO pO mS mA dS dA cO iA oA kO fO aO rA u9 (vp_updL g (0 : Int32).toNatClampNeg (r9).toInt64)) H := hP
    have hD : va_D A (wLx cI cJ oL xO pO mS mA dS dA cO iA oA kO fO aO rA u9 (vp_updL g (0 : Int32).toNatClampNeg (r9).toInt64)) := hD
    refine lv_goto (tgt := 15) hx hb dL_type_9 (by decide) ?_
    refine lv_iconst (v := 0) hx hb dL_type_15 (by decide) ?_
    refine W.widen (k := 1) (n := 6) (Nat.le_of_ble_eq_true rfl) (Nat.le_of_ble_eq_true rfl) ?_
    exact W.iret (v := 0) hx hb hr (fun t ht hW => ⟨⟨0, (u9, (vp_updL g (0 : Int32).toNatClampNeg (r9).toInt64)), rfl, (by simp only [f_L_type, ← hw1]), by rw [ht]; exact hP, va_K.moved hW.alike hK, hD⟩, hS.F ht⟩) hS.2.2 dL_type_16

def f_L_text (u : PW) (g : Nat → Int64) (a1 : Int32) : Int32 × PW × (Nat → Int64) := match (f_X6_text u a1) with
  | none => (1, u, g)
  | some r => (0, u, vp_updL g (0 : Int32).toNatClampNeg (r).toInt64)
theorem qL_text_0 : Cond.classLink RL 28 "java/lang/IndexOutOfBoundsException" ∈ wsL_text := by decide +kernel
set_option maxHeartbeats 4000000 in
set_option maxRecDepth 100000 in
theorem k_L_text (l : Launch) (hl0 : l.stackTraces = false) (dC : Nat → ClassId) (dI : Nat → Nat → Nat) (cI cJ : ClassId) (oL xO pO mS mA dS dA cO iA oA kO fO aO rA : Nat) (sz : Nat) (u : PW) (g : Nat → Int64) (a1 : Int32) : Met l yL_text wsL_text ({ frames := 7, cells := 1, slots := 6, locals := 102 }) (va_Pc [.ref xO, .int a1, .ref oL] (wBX dC dI [(cI, .int), (cJ, .long)] sz (wLx cI cJ oL xO pO mS mA dS dA cO iA oA kO fO aO rA u g))) (va_Qi (fun (r : Int32) (x' : PW × (Nat → Int64)) => (r, x') = (f_L_text u g a1)) (fun x' => wE dC dI [(cI, .int), (cJ, .long)] (va_A (wLx cI cJ oL xO pO mS mA dS dA cO iA oA kO fO aO rA u g) sz) (wLx cI cJ oL xO pO mS mA dS dA cO iA oA kO fO aO rA x'.1 x'.2)) (va_A (wLx cI cJ oL xO pO mS mA dS dA cO iA oA kO fO aO rA u g) sz)) 1 6 (va_A (wLx cI cJ oL xO pO mS mA dS dA cO iA oA kO fO aO rA u g) sz) := by
  refine va_MetW (cc := cL_text) (maxL := 4) (ret := (some .int)) (hh := [(0, 9, 12, 28)]) (by decide) rfl ?_
  intro p e s m args below meth c s₁ B hml hv
  obtain ⟨rfl, hsz, hP, hK, hD0, hT⟩ := hv
  have hx := B.exec
  have hb := B.bytes
  have hr := B.returns
  have hts := atoms_spec (ws := wsL_text) B.pre
  have htab := vx_table (x := yL_text) B (hts _ (List.mem_cons_self : Cond.codeWith yL_text cL_text 4 (some .int) [(0, 9, 12, 28)] ∈ wsL_text))
  have hown : s.vm.findClass RL = some m.cls := findClass_of_methodNamed B.named
  have hlocks := B.notSynchronized
  subst hsz
  have hD := hD0.self (sz := s.heap.size)
  generalize hAe : va_A (wLx cI cJ oL xO pO mS mA dS dA cO iA oA kO fO aO rA u g) s.heap.size = A at hD hT ⊢
  have hA : ∀ q : Nat, s.heap.size ≤ q → A q := fun q h => by rw [← hAe]; exact Or.inr h
  have hS : va_S A s.heap s.heap [] := va_S.rf
  have hP : va_P (dC, dI) vwCl (wLx cI cJ oL xO pO mS mA dS dA cO iA oA kO fO aO rA u g) s.heap := hP
  clear hAe hD0
  have hl := lv_entry ([.ref xO, .int a1, .ref oL]) (n := 4) (Nat.le_of_ble_eq_true rfl)
  rw [lg_entry_eq]
  generalize (lg_sl ([.ref xO, .int a1, .ref oL]) ++ List.replicate (4 - (lg_sl ([.ref xO, .int a1, .ref oL])).length) Slot.unset).toArray = ls at hl ⊢
  have hl : lv_has ls 4 [(0, .ref xO), (1, .int a1), (2, .ref oL)] := hl
  refine jn_H hP hS (fun H locs hP hS => ?_)
  refine lv_aload_n hx hb dL_text_0 rfl (lv_at hl 2 rfl) ?_
  refine lv_iconst (v := 0) hx hb dL_text_1 (by decide) ?_
  refine lv_aload_n hx hb dL_text_2 rfl (lv_at hl 0 rfl) ?_
  refine lv_iload_n hx hb dL_text_3 rfl (lv_at hl 1 rfl) ?_
  obtain ⟨hPc, hDc, hFc⟩ := xL_X hP hD hS hA
  have hKc := hK.sub (tys' := [(cI, .int)]) [0] rfl
  refine vx_calli (vx_runV (As := [.int a1]) (rest := [.int 0, .ref oL]) ⟨hx, hb, hml, hown, hts⟩ (k_X6_text l hl0 dC dI cI xO pO mS mA dS dA cO iA oA kO fO aO rA H.size u a1) (cwV 1 hts gL_text_X6_text rfl rfl rfl (by decide +kernel) ⟨Nat.le_of_ble_eq_true rfl, Nat.le_of_ble_eq_true rfl⟩) ⟨fun a U g mk q => by obtain ⟨q0, q1, qP, qK, qD, qT⟩ := q; exact ⟨q0, q1, qP, va_K.moved (u := U) (U := U.calling g mk a) (Vm.Alike.refl U.vm) qK, qD, qT.calling g mk a⟩, va_recv hKc hPc (ci := 6) (q0 := 0) rfl rfl, fun U hU hW => ⟨rfl, by rw [hU], by rw [hU]; exact hPc, va_K.moved hW.alike hKc, hDc.weaken (fun _ _ _ _ => trivial), hT.to hS hFc hU hW⟩⟩ rfl rfl hl.1 rfl (lv_room (Nat.le_of_ble_eq_true rfl)) dL_text_4 ⟨Nat.le_of_ble_eq_true rfl, Nat.le_of_ble_eq_true rfl⟩) hS (fun q _ h => hFc q h) hFc (fun q _ h => hFc q h) (fun E ce q9 u9 t H1 locs ht hvm hw hB hz1 hk1 hS hce hcv hcl => ?_) (fun r9 u9 t H1 locs ht hvm hw hB hz1 hk1 hS => ?_)
  · obtain ⟨hw1, hw2⟩ := hw
    have hw2 := hw2.symm
    subst hw2
    obtain ⟨rfl, hP1, hK1, hD1⟩ := hB
    rw [ht] at hP1
    obtain ⟨hP, hD⟩ := jL_X hP hD hk1 hFc hP1 hD1
    refine cx_catch (x := ⟨0, 9, 12, 28⟩) hown htab (by decide) (by decide) (hts _ qL_text_0) (va_Nw.use rfl (hT.2.2 _ (by decide +kernel))) hce hcv hcl ?_
    refine lv_astore_n (lv' := [(3, .ref q9), (0, .ref xO), (1, .int a1), (2, .ref oL)]) hx hb dL_text_12 rfl hl (by decide) rfl (fun ls hl => ?_)
    refine lv_iconst (v := 1) hx hb dL_text_13 (by decide) ?_
    refine W.widen (k := 1) (n := 6) (Nat.le_of_ble_eq_true rfl) (Nat.le_of_ble_eq_true rfl) ?_
    exact W.iret (v := 1) hx hb hr (fun t ht hW => ⟨⟨1, (u, g), rfl, (by simp only [f_L_text, hw1]), by rw [ht]; exact hP, va_K.moved hW.alike hK, hD⟩, hS.F ht⟩) hS.2.2 dL_text_14
  · obtain ⟨hw1, hw2⟩ := hw
    have hw2 := hw2.symm
    subst hw2
    obtain ⟨hP1, hK1, hD1⟩ := hB
    rw [ht] at hP1
    obtain ⟨hP, hD⟩ := jL_X hP hD hk1 hFc hP1 hD1
    refine lv_i2l (v := (r9).toInt64) hx hb dL_text_7 rfl ?_
    refine va_last (f := g) hx hb hK hP hD hS 0 1 rfl rfl (ix_lit (by decide)) dL_text_8 (fun H locs hP hD hS => ?_)
    have hP : va_P (dC, dI) vwCl (wLx cI cJ oL xO pO mS mA dS dA cO iA oA kO fO aO rA u (vp_updL g (0 : Int32).toNatClampNeg (r9).toInt64)) H := hP
    have hD : va_D A (wLx cI cJ oL xO pO mS mA dS dA cO iA oA kO fO aO rA u (vp_updL g (0 : Int32).toNatClampNeg (r9).toInt64)) := hD
    refine lv_goto (tgt := 15) hx hb dL_text_9 (by decide) ?_
    refine lv_iconst (v := 0) hx hb dL_text_15 (by decide) ?_
    refine W.widen (k := 1) (n := 6) (Nat.le_of_ble_eq_true rfl) (Nat.le_of_ble_eq_true rfl) ?_
    exact W.iret (v := 0) hx hb hr (fun t ht hW => ⟨⟨0, (u, (vp_updL g (0 : Int32).toNatClampNeg (r9).toInt64)), rfl, (by simp only [f_L_text, ← hw1]), by rw [ht]; exact hP, va_K.moved hW.alike hK, hD⟩, hS.F ht⟩) hS.2.2 dL_text_16

def f_L_want (u : PW) (a1 : Int32) : Int32 × PW := match (f_X6_want u a1) with
  | none => (1, u)
  | some x => (0, x)
theorem qL_want_0 : Cond.classLink RL 13 "java/lang/IllegalArgumentException" ∈ wsL_want := by decide +kernel
set_option maxHeartbeats 4000000 in
set_option maxRecDepth 100000 in
theorem k_L_want (l : Launch) (hl0 : l.stackTraces = false) (dC : Nat → ClassId) (dI : Nat → Nat → Nat) (cI : ClassId) (xO pO mS mA dS dA cO iA oA kO fO aO rA : Nat) (sz : Nat) (u : PW) (a1 : Int32) : Met l yL_want wsL_want ({ frames := 7, cells := 1, slots := 6, locals := 102 }) (va_Pc [.ref xO, .int a1] (wBX dC dI [(cI, .int)] sz (wX cI xO pO mS mA dS dA cO iA oA kO fO aO rA u))) (va_Qi (fun (r : Int32) (x' : PW) => (r, x') = (f_L_want u a1)) (fun x' => wE dC dI [(cI, .int)] (va_A (wX cI xO pO mS mA dS dA cO iA oA kO fO aO rA u) sz) (wX cI xO pO mS mA dS dA cO iA oA kO fO aO rA x')) (va_A (wX cI xO pO mS mA dS dA cO iA oA kO fO aO rA u) sz)) 1 6 (va_A (wX cI xO pO mS mA dS dA cO iA oA kO fO aO rA u) sz) := by
  refine va_MetW (cc := cL_want) (maxL := 3) (ret := (some .int)) (hh := [(0, 5, 8, 13)]) (by decide) rfl ?_
  intro p e s m args below meth c s₁ B hml hv
  obtain ⟨rfl, hsz, hP, hK, hD0, hT⟩ := hv
  have hx := B.exec
  have hb := B.bytes
  have hr := B.returns
  have hts := atoms_spec (ws := wsL_want) B.pre
  have htab := vx_table (x := yL_want) B (hts _ (List.mem_cons_self : Cond.codeWith yL_want cL_want 3 (some .int) [(0, 5, 8, 13)] ∈ wsL_want))
  have hown : s.vm.findClass RL = some m.cls := findClass_of_methodNamed B.named
  have hlocks := B.notSynchronized
  subst hsz
  have hD := hD0.self (sz := s.heap.size)
  generalize hAe : va_A (wX cI xO pO mS mA dS dA cO iA oA kO fO aO rA u) s.heap.size = A at hD hT ⊢
  have hA : ∀ q : Nat, s.heap.size ≤ q → A q := fun q h => by rw [← hAe]; exact Or.inr h
  have hS : va_S A s.heap s.heap [] := va_S.rf
  have hP : va_P (dC, dI) vwCl (wX cI xO pO mS mA dS dA cO iA oA kO fO aO rA u) s.heap := hP
  clear hAe hD0
  have hl := lv_entry ([.ref xO, .int a1]) (n := 3) (Nat.le_of_ble_eq_true rfl)
  rw [lg_entry_eq]
  generalize (lg_sl ([.ref xO, .int a1]) ++ List.replicate (3 - (lg_sl ([.ref xO, .int a1])).length) Slot.unset).toArray = ls at hl ⊢
  have hl : lv_has ls 3 [(0, .ref xO), (1, .int a1)] := hl
  refine jn_H hP hS (fun H locs hP hS => ?_)
  refine lv_aload_n hx hb dL_want_0 rfl (lv_at hl 0 rfl) ?_
  refine lv_iload_n hx hb dL_want_1 rfl (lv_at hl 1 rfl) ?_
  obtain ⟨hPc, hDc, hFc⟩ := xX_X hP hD hS hA
  have hKc := hK.sub (tys' := [(cI, .int)]) [0] rfl
  refine vx_callv (vx_runV (As := [.int a1]) (rest := []) ⟨hx, hb, hml, hown, hts⟩ (k_X6_want l hl0 dC dI cI xO pO mS mA dS dA cO iA oA kO fO aO rA H.size u a1) (cwV 1 hts gL_want_X6_want rfl rfl rfl (by decide +kernel) ⟨Nat.le_of_ble_eq_true rfl, Nat.le_of_ble_eq_true rfl⟩) ⟨fun a U g mk q => by obtain ⟨q0, q1, qP, qK, qD, qT⟩ := q; exact ⟨q0, q1, qP, va_K.moved (u := U) (U := U.calling g mk a) (Vm.Alike.refl U.vm) qK, qD, qT.calling g mk a⟩, va_recv hKc hPc (ci := 6) (q0 := 0) rfl rfl, fun U hU hW => ⟨rfl, by rw [hU], by rw [hU]; exact hPc, va_K.moved hW.alike hKc, hDc.weaken (fun _ _ _ _ => trivial), hT.to hS hFc hU hW⟩⟩ rfl rfl hl.1 rfl (lv_room (Nat.le_of_ble_eq_true rfl)) dL_want_2 ⟨Nat.le_of_ble_eq_true rfl, Nat.le_of_ble_eq_true rfl⟩) hS (fun q _ h => hFc q h) hFc (fun q _ h => hFc q h) (fun E ce q9 u9 t H1 locs ht hvm hw hB hz1 hk1 hS hce hcv hcl => ?_) (fun u9 t H1 locs ht hvm hw hB hz1 hk1 hS => ?_)
  · obtain ⟨hw1, hw2⟩ := hw
    have hw2 := hw2.symm
    subst hw2
    obtain ⟨rfl, hP1, hK1, hD1⟩ := hB
    rw [ht] at hP1
    obtain ⟨hP, hD⟩ := jX_X hP hD hk1 hFc hP1 hD1
    refine cx_catch (x := ⟨0, 5, 8, 13⟩) hown htab (by decide) (by decide) (hts _ qL_want_0) (va_Nw.use rfl (hT.2.2 _ (by decide +kernel))) hce hcv hcl ?_
    refine lv_astore_n (lv' := [(2, .ref q9), (0, .ref xO), (1, .int a1)]) hx hb dL_want_8 rfl hl (by decide) rfl (fun ls hl => ?_)
    refine lv_iconst (v := 1) hx hb dL_want_9 (by decide) ?_
    refine W.widen (k := 1) (n := 6) (Nat.le_of_ble_eq_true rfl) (Nat.le_of_ble_eq_true rfl) ?_
    exact W.iret (v := 1) hx hb hr (fun t ht hW => ⟨⟨1, u, rfl, (by simp only [f_L_want, hw1]), by rw [ht]; exact hP, va_K.moved hW.alike hK, hD⟩, hS.F ht⟩) hS.2.2 dL_want_10
  · have hw1 := hw
    obtain ⟨hP1, hK1, hD1⟩ := hB
    rw [ht] at hP1
    obtain ⟨hP, hD⟩ := jX_X hP hD hk1 hFc hP1 hD1
    refine lv_goto (tgt := 11) hx hb dL_want_5 (by decide) ?_
    refine lv_iconst (v := 0) hx hb dL_want_11 (by decide) ?_
    refine W.widen (k := 1) (n := 6) (Nat.le_of_ble_eq_true rfl) (Nat.le_of_ble_eq_true rfl) ?_
    exact W.iret (v := 0) hx hb hr (fun t ht hW => ⟨⟨0, u9, rfl, (by simp only [f_L_want, ← hw1]), by rw [ht]; exact hP, va_K.moved hW.alike hK, hD⟩, hS.F ht⟩) hS.2.2 dL_want_12

def f_L_step (u : PW) (g : Nat → Int64) (a1 : Int32) : Int32 × PW × (Nat → Int64) := match (f_X6_step u a1) with
  | none => (1, u, g)
  | some x => (0, x.2, vp_updL g (0 : Int32).toNatClampNeg (x.1).toInt64)
theorem qL_step_0 : Cond.classLink RL 13 "java/lang/IllegalArgumentException" ∈ wsL_step := by decide +kernel
set_option maxHeartbeats 4000000 in
set_option maxRecDepth 100000 in
theorem k_L_step (l : Launch) (hl0 : l.stackTraces = false) (dC : Nat → ClassId) (dI : Nat → Nat → Nat) (cI cJ : ClassId) (oL xO pO mS mA dS dA cO iA oA kO fO aO rA : Nat) (sz : Nat) (u : PW) (g : Nat → Int64) (a1 : Int32) (hG : ∀ z, z < (a1).toNatClampNeg → ∃ i j : Nat, i < 64 ∧ j ≤ 64 ∧ gCS_fst (gPW_C (cit z u).2) = nI i ∧ gCS_cnt (gPW_C (cit z u).2) = nI j) : Met l yL_step wsL_step ({ frames := 8, cells := 1, slots := 6, locals := 179 }) (va_Pc [.ref xO, .int a1, .ref oL] (wBX dC dI [(cI, .int), (cJ, .long)] sz (wLx cI cJ oL xO pO mS mA dS dA cO iA oA kO fO aO rA u g))) (va_Qi (fun (r : Int32) (x' : PW × (Nat → Int64)) => (r, x') = (f_L_step u g a1)) (fun x' => wE dC dI [(cI, .int), (cJ, .long)] (va_A (wLx cI cJ oL xO pO mS mA dS dA cO iA oA kO fO aO rA u g) sz) (wLx cI cJ oL xO pO mS mA dS dA cO iA oA kO fO aO rA x'.1 x'.2)) (va_A (wLx cI cJ oL xO pO mS mA dS dA cO iA oA kO fO aO rA u g) sz)) 1 6 (va_A (wLx cI cJ oL xO pO mS mA dS dA cO iA oA kO fO aO rA u g) sz) := by
  refine va_MetW (cc := cL_step) (maxL := 4) (ret := (some .int)) (hh := [(0, 9, 12, 13)]) (by decide) rfl ?_
  intro p e s m args below meth c s₁ B hml hv
  obtain ⟨rfl, hsz, hP, hK, hD0, hT⟩ := hv
  have hx := B.exec
  have hb := B.bytes
  have hr := B.returns
  have hts := atoms_spec (ws := wsL_step) B.pre
  have htab := vx_table (x := yL_step) B (hts _ (List.mem_cons_self : Cond.codeWith yL_step cL_step 4 (some .int) [(0, 9, 12, 13)] ∈ wsL_step))
  have hown : s.vm.findClass RL = some m.cls := findClass_of_methodNamed B.named
  have hlocks := B.notSynchronized
  subst hsz
  have hD := hD0.self (sz := s.heap.size)
  generalize hAe : va_A (wLx cI cJ oL xO pO mS mA dS dA cO iA oA kO fO aO rA u g) s.heap.size = A at hD hT ⊢
  have hA : ∀ q : Nat, s.heap.size ≤ q → A q := fun q h => by rw [← hAe]; exact Or.inr h
  have hS : va_S A s.heap s.heap [] := va_S.rf
  have hP : va_P (dC, dI) vwCl (wLx cI cJ oL xO pO mS mA dS dA cO iA oA kO fO aO rA u g) s.heap := hP
  clear hAe hD0
  have hl := lv_entry ([.ref xO, .int a1, .ref oL]) (n := 4) (Nat.le_of_ble_eq_true rfl)
  rw [lg_entry_eq]
  generalize (lg_sl ([.ref xO, .int a1, .ref oL]) ++ List.replicate (4 - (lg_sl ([.ref xO, .int a1, .ref oL])).length) Slot.unset).toArray = ls at hl ⊢
  have hl : lv_has ls 4 [(0, .ref xO), (1, .int a1), (2, .ref oL)] := hl
  refine jn_H hP hS (fun H locs hP hS => ?_)
  refine lv_aload_n hx hb dL_step_0 rfl (lv_at hl 2 rfl) ?_
  refine lv_iconst (v := 0) hx hb dL_step_1 (by decide) ?_
  refine lv_aload_n hx hb dL_step_2 rfl (lv_at hl 0 rfl) ?_
  refine lv_iload_n hx hb dL_step_3 rfl (lv_at hl 1 rfl) ?_
  obtain ⟨hPc, hDc, hFc⟩ := xL_X hP hD hS hA
  have hKc := hK.sub (tys' := [(cI, .int)]) [0] rfl
  refine vx_calli (vx_runV (As := [.int a1]) (rest := [.int 0, .ref oL]) ⟨hx, hb, hml, hown, hts⟩ (k_X6_step l hl0 dC dI cI xO pO mS mA dS dA cO iA oA kO fO aO rA H.size u a1 hG) (cwV 1 hts gL_step_X6_step rfl rfl rfl (by decide +kernel) ⟨Nat.le_of_ble_eq_true rfl, Nat.le_of_ble_eq_true rfl⟩) ⟨fun a U g mk q => by obtain ⟨q0, q1, qP, qK, qD, qT⟩ := q; exact ⟨q0, q1, qP, va_K.moved (u := U) (U := U.calling g mk a) (Vm.Alike.refl U.vm) qK, qD, qT.calling g mk a⟩, va_recv hKc hPc (ci := 6) (q0 := 0) rfl rfl, fun U hU hW => ⟨rfl, by rw [hU], by rw [hU]; exact hPc, va_K.moved hW.alike hKc, hDc.weaken (fun _ _ _ _ => trivial), hT.to hS hFc hU hW⟩⟩ rfl rfl hl.1 rfl (lv_room (Nat.le_of_ble_eq_true rfl)) dL_step_4 ⟨Nat.le_of_ble_eq_true rfl, Nat.le_of_ble_eq_true rfl⟩) hS (fun q _ h => hFc q h) hFc (fun q _ h => hFc q h) (fun E ce q9 u9 t H1 locs ht hvm hw hB hz1 hk1 hS hce hcv hcl => ?_) (fun r9 u9 t H1 locs ht hvm hw hB hz1 hk1 hS => ?_)
  · obtain ⟨hw1, hw2⟩ := hw
    have hw2 := hw2.symm
    subst hw2
    obtain ⟨rfl, hP1, hK1, hD1⟩ := hB
    rw [ht] at hP1
    obtain ⟨hP, hD⟩ := jL_X hP hD hk1 hFc hP1 hD1
    refine cx_catch (x := ⟨0, 9, 12, 13⟩) hown htab (by decide) (by decide) (hts _ qL_step_0) (va_Nw.use rfl (hT.2.2 _ (by decide +kernel))) hce hcv hcl ?_
    refine lv_astore_n (lv' := [(3, .ref q9), (0, .ref xO), (1, .int a1), (2, .ref oL)]) hx hb dL_step_12 rfl hl (by decide) rfl (fun ls hl => ?_)
    refine lv_iconst (v := 1) hx hb dL_step_13 (by decide) ?_
    refine W.widen (k := 1) (n := 6) (Nat.le_of_ble_eq_true rfl) (Nat.le_of_ble_eq_true rfl) ?_
    exact W.iret (v := 1) hx hb hr (fun t ht hW => ⟨⟨1, (u, g), rfl, (by simp only [f_L_step, hw1]), by rw [ht]; exact hP, va_K.moved hW.alike hK, hD⟩, hS.F ht⟩) hS.2.2 dL_step_14
  · have hw1 := hw
    obtain ⟨hP1, hK1, hD1⟩ := hB
    rw [ht] at hP1
    obtain ⟨hP, hD⟩ := jL_X hP hD hk1 hFc hP1 hD1
    refine lv_i2l (v := (r9).toInt64) hx hb dL_step_7 rfl ?_
    refine va_last (f := g) hx hb hK hP hD hS 0 1 rfl rfl (ix_lit (by decide)) dL_step_8 (fun H locs hP hD hS => ?_)
    have hP : va_P (dC, dI) vwCl (wLx cI cJ oL xO pO mS mA dS dA cO iA oA kO fO aO rA u9 (vp_updL g (0 : Int32).toNatClampNeg (r9).toInt64)) H := hP
    have hD : va_D A (wLx cI cJ oL xO pO mS mA dS dA cO iA oA kO fO aO rA u9 (vp_updL g (0 : Int32).toNatClampNeg (r9).toInt64)) := hD
    refine lv_goto (tgt := 15) hx hb dL_step_9 (by decide) ?_
    refine lv_iconst (v := 0) hx hb dL_step_15 (by decide) ?_
    refine W.widen (k := 1) (n := 6) (Nat.le_of_ble_eq_true rfl) (Nat.le_of_ble_eq_true rfl) ?_
    exact W.iret (v := 0) hx hb hr (fun t ht hW => ⟨⟨0, (u9, (vp_updL g (0 : Int32).toNatClampNeg (r9).toInt64)), rfl, (by simp only [f_L_step, ← hw1]), by rw [ht]; exact hP, va_K.moved hW.alike hK, hD⟩, hS.F ht⟩) hS.2.2 dL_step_16

def f_L_told (u : PW) (g : Nat → Int64) (a1 : Int32) : Int32 × PW × (Nat → Int64) := match (f_X6_told u a1) with
  | none => (1, u, g)
  | some r => (0, u, vp_updL g (0 : Int32).toNatClampNeg (r).toInt64)
theorem qL_told_0 : Cond.classLink RL 13 "java/lang/IllegalArgumentException" ∈ wsL_told := by decide +kernel
set_option maxHeartbeats 4000000 in
set_option maxRecDepth 100000 in
theorem k_L_told (l : Launch) (hl0 : l.stackTraces = false) (dC : Nat → ClassId) (dI : Nat → Nat → Nat) (cI cJ : ClassId) (oL xO pO mS mA dS dA cO iA oA kO fO aO rA : Nat) (sz : Nat) (u : PW) (g : Nat → Int64) (a1 : Int32) : Met l yL_told wsL_told ({ frames := 7, cells := 1, slots := 6, locals := 102 }) (va_Pc [.ref xO, .int a1, .ref oL] (wBX dC dI [(cI, .int), (cJ, .long)] sz (wLx cI cJ oL xO pO mS mA dS dA cO iA oA kO fO aO rA u g))) (va_Qi (fun (r : Int32) (x' : PW × (Nat → Int64)) => (r, x') = (f_L_told u g a1)) (fun x' => wE dC dI [(cI, .int), (cJ, .long)] (va_A (wLx cI cJ oL xO pO mS mA dS dA cO iA oA kO fO aO rA u g) sz) (wLx cI cJ oL xO pO mS mA dS dA cO iA oA kO fO aO rA x'.1 x'.2)) (va_A (wLx cI cJ oL xO pO mS mA dS dA cO iA oA kO fO aO rA u g) sz)) 1 6 (va_A (wLx cI cJ oL xO pO mS mA dS dA cO iA oA kO fO aO rA u g) sz) := by
  refine va_MetW (cc := cL_told) (maxL := 4) (ret := (some .int)) (hh := [(0, 9, 12, 13)]) (by decide) rfl ?_
  intro p e s m args below meth c s₁ B hml hv
  obtain ⟨rfl, hsz, hP, hK, hD0, hT⟩ := hv
  have hx := B.exec
  have hb := B.bytes
  have hr := B.returns
  have hts := atoms_spec (ws := wsL_told) B.pre
  have htab := vx_table (x := yL_told) B (hts _ (List.mem_cons_self : Cond.codeWith yL_told cL_told 4 (some .int) [(0, 9, 12, 13)] ∈ wsL_told))
  have hown : s.vm.findClass RL = some m.cls := findClass_of_methodNamed B.named
  have hlocks := B.notSynchronized
  subst hsz
  have hD := hD0.self (sz := s.heap.size)
  generalize hAe : va_A (wLx cI cJ oL xO pO mS mA dS dA cO iA oA kO fO aO rA u g) s.heap.size = A at hD hT ⊢
  have hA : ∀ q : Nat, s.heap.size ≤ q → A q := fun q h => by rw [← hAe]; exact Or.inr h
  have hS : va_S A s.heap s.heap [] := va_S.rf
  have hP : va_P (dC, dI) vwCl (wLx cI cJ oL xO pO mS mA dS dA cO iA oA kO fO aO rA u g) s.heap := hP
  clear hAe hD0
  have hl := lv_entry ([.ref xO, .int a1, .ref oL]) (n := 4) (Nat.le_of_ble_eq_true rfl)
  rw [lg_entry_eq]
  generalize (lg_sl ([.ref xO, .int a1, .ref oL]) ++ List.replicate (4 - (lg_sl ([.ref xO, .int a1, .ref oL])).length) Slot.unset).toArray = ls at hl ⊢
  have hl : lv_has ls 4 [(0, .ref xO), (1, .int a1), (2, .ref oL)] := hl
  refine jn_H hP hS (fun H locs hP hS => ?_)
  refine lv_aload_n hx hb dL_told_0 rfl (lv_at hl 2 rfl) ?_
  refine lv_iconst (v := 0) hx hb dL_told_1 (by decide) ?_
  refine lv_aload_n hx hb dL_told_2 rfl (lv_at hl 0 rfl) ?_
  refine lv_iload_n hx hb dL_told_3 rfl (lv_at hl 1 rfl) ?_
  obtain ⟨hPc, hDc, hFc⟩ := xL_X hP hD hS hA
  have hKc := hK.sub (tys' := [(cI, .int)]) [0] rfl
  refine vx_calli (vx_runV (As := [.int a1]) (rest := [.int 0, .ref oL]) ⟨hx, hb, hml, hown, hts⟩ (k_X6_told l hl0 dC dI cI xO pO mS mA dS dA cO iA oA kO fO aO rA H.size u a1) (cwV 1 hts gL_told_X6_told rfl rfl rfl (by decide +kernel) ⟨Nat.le_of_ble_eq_true rfl, Nat.le_of_ble_eq_true rfl⟩) ⟨fun a U g mk q => by obtain ⟨q0, q1, qP, qK, qD, qT⟩ := q; exact ⟨q0, q1, qP, va_K.moved (u := U) (U := U.calling g mk a) (Vm.Alike.refl U.vm) qK, qD, qT.calling g mk a⟩, va_recv hKc hPc (ci := 6) (q0 := 0) rfl rfl, fun U hU hW => ⟨rfl, by rw [hU], by rw [hU]; exact hPc, va_K.moved hW.alike hKc, hDc.weaken (fun _ _ _ _ => trivial), hT.to hS hFc hU hW⟩⟩ rfl rfl hl.1 rfl (lv_room (Nat.le_of_ble_eq_true rfl)) dL_told_4 ⟨Nat.le_of_ble_eq_true rfl, Nat.le_of_ble_eq_true rfl⟩) hS (fun q _ h => hFc q h) hFc (fun q _ h => hFc q h) (fun E ce q9 u9 t H1 locs ht hvm hw hB hz1 hk1 hS hce hcv hcl => ?_) (fun r9 u9 t H1 locs ht hvm hw hB hz1 hk1 hS => ?_)
  · obtain ⟨hw1, hw2⟩ := hw
    have hw2 := hw2.symm
    subst hw2
    obtain ⟨rfl, hP1, hK1, hD1⟩ := hB
    rw [ht] at hP1
    obtain ⟨hP, hD⟩ := jL_X hP hD hk1 hFc hP1 hD1
    refine cx_catch (x := ⟨0, 9, 12, 13⟩) hown htab (by decide) (by decide) (hts _ qL_told_0) (va_Nw.use rfl (hT.2.2 _ (by decide +kernel))) hce hcv hcl ?_
    refine lv_astore_n (lv' := [(3, .ref q9), (0, .ref xO), (1, .int a1), (2, .ref oL)]) hx hb dL_told_12 rfl hl (by decide) rfl (fun ls hl => ?_)
    refine lv_iconst (v := 1) hx hb dL_told_13 (by decide) ?_
    refine W.widen (k := 1) (n := 6) (Nat.le_of_ble_eq_true rfl) (Nat.le_of_ble_eq_true rfl) ?_
    exact W.iret (v := 1) hx hb hr (fun t ht hW => ⟨⟨1, (u, g), rfl, (by simp only [f_L_told, hw1]), by rw [ht]; exact hP, va_K.moved hW.alike hK, hD⟩, hS.F ht⟩) hS.2.2 dL_told_14
  · obtain ⟨hw1, hw2⟩ := hw
    have hw2 := hw2.symm
    subst hw2
    obtain ⟨hP1, hK1, hD1⟩ := hB
    rw [ht] at hP1
    obtain ⟨hP, hD⟩ := jL_X hP hD hk1 hFc hP1 hD1
    refine lv_i2l (v := (r9).toInt64) hx hb dL_told_7 rfl ?_
    refine va_last (f := g) hx hb hK hP hD hS 0 1 rfl rfl (ix_lit (by decide)) dL_told_8 (fun H locs hP hD hS => ?_)
    have hP : va_P (dC, dI) vwCl (wLx cI cJ oL xO pO mS mA dS dA cO iA oA kO fO aO rA u (vp_updL g (0 : Int32).toNatClampNeg (r9).toInt64)) H := hP
    have hD : va_D A (wLx cI cJ oL xO pO mS mA dS dA cO iA oA kO fO aO rA u (vp_updL g (0 : Int32).toNatClampNeg (r9).toInt64)) := hD
    refine lv_goto (tgt := 15) hx hb dL_told_9 (by decide) ?_
    refine lv_iconst (v := 0) hx hb dL_told_15 (by decide) ?_
    refine W.widen (k := 1) (n := 6) (Nat.le_of_ble_eq_true rfl) (Nat.le_of_ble_eq_true rfl) ?_
    exact W.iret (v := 0) hx hb hr (fun t ht hW => ⟨⟨0, (u, (vp_updL g (0 : Int32).toNatClampNeg (r9).toInt64)), rfl, (by simp only [f_L_told, ← hw1]), by rw [ht]; exact hP, va_K.moved hW.alike hK, hD⟩, hS.F ht⟩) hS.2.2 dL_told_16
