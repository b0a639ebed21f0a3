theorem arr_known {args : Array Value} {s : State} (h : (Cond.arrayClass .int).before args s = true) : ∃ cA : ClassId, ArrOfT s cA .int ∧ va_RA s cA .int := by
  obtain ⟨cA, k, comp, h1, h2, h3⟩ := Cond.arrayClass_spec h
  exact ⟨cA, fun n z => ⟨fun k h => (by cases h), k, h2, comp, h3⟩, h1⟩
set_option maxRecDepth 100000 in
theorem qL_law_0 : Cond.classLink RL 8 RX6 ∈ wsL_law := by decide +kernel
set_option maxRecDepth 100000 in
theorem qL_law_1 : Cond.instantiable RX6 5 ∈ wsL_law := by decide +kernel
set_option maxRecDepth 100000 in
theorem qL_law_2 : Cond.initialized RX6 ∈ wsL_law := by decide +kernel
set_option maxRecDepth 100000 in
theorem qL_law_3 : Cond.methodLink RL 50 yX6_init ∈ wsL_law := by decide +kernel
set_option maxRecDepth 100000 in
theorem qL_law_4 : Cond.instanceMethod yX6_init ∈ wsL_law := by decide +kernel
set_option maxRecDepth 100000 in
theorem qL_law_5 : Cond.classLink RL 51 RX7 ∈ wsL_law := by decide +kernel
set_option maxRecDepth 100000 in
theorem qL_law_6 : Cond.instantiable RX7 30 ∈ wsL_law := by decide +kernel
set_option maxRecDepth 100000 in
theorem qL_law_7 : Cond.initialized RX7 ∈ wsL_law := by decide +kernel
set_option maxRecDepth 100000 in
theorem qL_law_8 : Cond.methodLink RL 53 yX7_init ∈ wsL_law := by decide +kernel
set_option maxRecDepth 100000 in
theorem qL_law_9 : Cond.instanceMethod yX7_init ∈ wsL_law := by decide +kernel
set_option maxRecDepth 100000 in
theorem qL_law_10 : Cond.arrayClass .long ∈ wsL_law := by decide +kernel
set_option maxHeartbeats 40000000 in
set_option maxRecDepth 100000 in
/-- THE LAW, from its entry -/
theorem whole_start {p : Program} {e : Env} {s : State} {m : MethodId} {below : List Frame} {meth : Method} {c : Code} (l : Launch) (hl0 : l.stackTraces = false) {b L : Nat} {xs : Nat → Int32} (hL : L ≤ 1536) (C0 : lw_At p s m meth c b L xs) : W p l e room_1 s m #[Value.ref b] below meth c s.heap [] 0 0 (lw_Z below #[Value.ref b] s) (entryFrame m ([Value.ref b] : List Value).toArray 7) := by
  obtain ⟨hx, hb, hr, hml, hown, hts0, hX, hbl, hlocks, hgv⟩ := id C0
  have hts : ∀ w ∈ wsL_law, w.before #[Value.ref b] s = true := fun w h => hts0 w (wsL_law_in w h)
  have hA : ∀ q : Nat, s.heap.size ≤ q → (fun q : Nat => s.heap.size ≤ q) q := fun _ h => h
  obtain ⟨c0, iS0, hKn0⟩ := u_known (C := RX0) (T := TX0) (N := 1) (n := 1) hts0 inX0 (hts0 (.instantiable RX0 1) (List.mem_of_getElem? (i := 195) rfl))
  obtain ⟨c1, iS1, hKn1⟩ := u_known (C := RX1) (T := TX1) (N := 5) (n := 5) hts0 inX1 (hts0 (.instantiable RX1 5) (List.mem_of_getElem? (i := 105) rfl))
  obtain ⟨c2, iS2, hKn2⟩ := u_known (C := RX2) (T := TX2) (N := 11) (n := 11) hts0 inX2 (hts0 (.instantiable RX2 11) (List.mem_of_getElem? (i := 127) rfl))
  obtain ⟨c3, iS3, hKn3⟩ := u_known (C := RX3) (T := TX3) (N := 5) (n := 5) hts0 inX3 (hts0 (.instantiable RX3 5) (List.mem_of_getElem? (i := 173) rfl))
  obtain ⟨c4, iS4, hKn4⟩ := u_known (C := RX4) (T := TX4) (N := 13) (n := 13) hts0 inX4 (hts0 (.instantiable RX4 13) (List.mem_of_getElem? (i := 167) rfl))
  obtain ⟨c5, iS5, hKn5⟩ := u_known (C := RX5) (T := TX5) (N := 1) (n := 1) hts0 inX5 (hts0 (.instantiable RX5 1) (List.mem_of_getElem? (i := 94) rfl))
  obtain ⟨c6, iS6, hKn6⟩ := u_known (C := RX6) (T := TX6) (N := 5) (n := 5) hts0 inX6 (hts0 (.instantiable RX6 5) (List.mem_of_getElem? (i := 86) rfl))
  obtain ⟨c7, iS7, hKn7⟩ := u_known (C := RX7) (T := TX7) (N := 30) (n := 30) hts0 inX7 (hts0 (.instantiable RX7 30) (List.mem_of_getElem? (i := 773) rfl))
  obtain ⟨dC, dI, hKc⟩ : ∃ (dC : Nat → ClassId) (dI : Nat → Nat → Nat), ∀ (k : Nat) (q : vw_C), vwCl[k]? = some q → u_Kn s q.1 q.2.1 q.2.2 (dC k) (dI k) := by
    refine ⟨fun k => if k = 0 then c0 else if k = 1 then c1 else if k = 2 then c2 else if k = 3 then c3 else if k = 4 then c4 else if k = 5 then c5 else if k = 6 then c6 else c7, fun k => if k = 0 then iS0 else if k = 1 then iS1 else if k = 2 then iS2 else if k = 3 then iS3 else if k = 4 then iS4 else if k = 5 then iS5 else if k = 6 then iS6 else iS7, ?_⟩
    intro k q hq
    match k, hq with
    | 0, hq => cases hq; exact hKn0
    | 1, hq => cases hq; exact hKn1
    | 2, hq => cases hq; exact hKn2
    | 3, hq => cases hq; exact hKn3
    | 4, hq => cases hq; exact hKn4
    | 5, hq => cases hq; exact hKn5
    | 6, hq => cases hq; exact hKn6
    | 7, hq => cases hq; exact hKn7
    | k + 8, hq => simp [vwCl] at hq
  obtain ⟨cI, hI1, hI2⟩ := arr_known (hts0 (.arrayClass .int) (List.mem_of_getElem? (i := 103) rfl))
  have hS : va_S (fun q : Nat => s.heap.size ≤ q) s.heap s.heap [] := va_S.rf
  have hK : va_K (dC, dI) vwCl [(cI, .int)] s := ⟨hKc, fun k q h => by match k, h with | 0, h => cases h; exact ⟨hI1, hI2⟩ | k + 1, h => simp at h⟩
  have hP : va_P (dC, dI) vwCl [] s.heap := fun k q h => by simp at h
  have hD : va_D (fun q : Nat => s.heap.size ≤ q) [] := ⟨fun i j p q h => by simp at h, fun k q h => by simp at h⟩
  have hT : tE (fun q : Nat => s.heap.size ≤ q) s := by
    refine ⟨vx_Zqof (hts0 (.laysStatic "java/lang/Throwable" "UNASSIGNED_STACK" "[Ljava/lang/StackTraceElement;") (List.mem_of_getElem? (i := 325) rfl)) (hts0 (.initialized "java/lang/Throwable") (List.mem_of_getElem? (i := 79) rfl)) (flat_of_before _ hgv _ (by decide +kernel)) (fun a h => Nat.not_le.mpr h), vx_Zqof (hts0 (.laysStatic "java/lang/Throwable" "SUPPRESSED_SENTINEL" "Ljava/util/List;") (List.mem_of_getElem? (i := 327) rfl)) (hts0 (.initialized "java/lang/Throwable") (List.mem_of_getElem? (i := 79) rfl)) (flat_of_before _ hgv _ (by decide +kernel)) (fun a h => Nat.not_le.mpr h), ?_⟩
    intro w hw
    simp only [tBad, List.mem_cons, List.not_mem_nil, or_false] at hw
    rcases hw with rfl | rfl | rfl | rfl | rfl
    · exact va_Nw.of rfl (hts0 (.castable "java/lang/IllegalArgumentException" "java/lang/IllegalArgumentException") (List.mem_of_getElem? (i := 300) rfl))
    · exact va_Nw.of rfl (hts0 (.castable "java/lang/IndexOutOfBoundsException" "java/lang/IndexOutOfBoundsException") (List.mem_of_getElem? (i := 407) rfl))
    · exact va_Nw.of rfl (hts0 (.declares ⟨"java/lang/RuntimeException", "<init>", "()V"⟩) (List.mem_of_getElem? (i := 301) rfl))
    · exact va_Nw.of rfl (hts0 (.declares ⟨"java/lang/Exception", "<init>", "()V"⟩) (List.mem_of_getElem? (i := 303) rfl))
    · exact va_Nw.of rfl (hts0 (.declares ⟨"java/lang/Throwable", "<init>", "()V"⟩) (List.mem_of_getElem? (i := 305) rfl))
  have hN : nE s := by
    intro w hw
    simp only [nestW, List.mem_cons, List.not_mem_nil, or_false] at hw
    rcases hw with rfl | rfl | rfl
    · exact va_Nw.of rfl (hts0 (.methodLinkNest RX6 9 yX5_init "DiskMachine") (List.mem_of_getElem? (i := 95) rfl))
    · exact va_Nw.of rfl (hts0 (.methodLinkNest RX6 21 yX1_init "DiskMachine") (List.mem_of_getElem? (i := 106) rfl))
    · exact va_Nw.of rfl (hts0 (.methodLinkNest RX4 11 yX3_init "DiskMachine") (List.mem_of_getElem? (i := 174) rfl))
  have hl := lv_entry ([.ref b]) (n := 7) (Nat.le_of_ble_eq_true rfl)
  rw [lg_entry_eq]
  generalize (lg_sl ([.ref b]) ++ List.replicate (7 - (lg_sl ([.ref b])).length) Slot.unset).toArray = ls at hl ⊢
  have hl : lv_has ls 7 [(0, .ref b)] := hl
  refine jn_H hP hS (fun H locs hP hS => ?_)
  refine va_new (ci := 6) (fs := [.null, .null, .null, .null, .null]) (C := RX6) (T := TX6) (N := 5) hx hb hts inlX6 tyX6 tyX6_ok hown (hts _ qL_law_0) (hts _ qL_law_1) (hts _ qL_law_2) hK hP hD hS hA rfl (fun j hj => by rcases (show j = 0 ∨ j = 1 ∨ j = 2 ∨ j = 3 ∨ j = 4 by omega) with rfl | rfl | rfl | rfl | rfl <;> rfl) (Nat.le_of_ble_eq_true rfl) (Nat.le_of_ble_eq_true rfl) dL_law_0 (fun xO H hP hD hS => ?_)
  have hP : va_P (dC, dI) vwCl [(xO, .inr (6, [.null, .null, .null, .null, .null]))] H := hP
  have hD : va_D (fun q : Nat => s.heap.size ≤ q) [(xO, .inr (6, [.null, .null, .null, .null, .null]))] := hD
  refine lv_dup hx hb dL_law_3 rfl ?_
  have hPc := hP.sub (ws' := [(xO, .inr (6, [.null, .null, .null, .null, .null]))]) [0] rfl
  have hDc := hD.sub (ws' := [(xO, .inr (6, [.null, .null, .null, .null, .null]))]) [0] (by decide) rfl
  have hKc := hK.sub (tys' := [(cI, .int)]) [0] rfl
  have hFc := va_free (wc := [(xO, .inr (6, [.null, .null, .null, .null, .null]))]) hD hS hA [0] rfl
  refine va_callv (va_runI (As := []) (rest := [.ref xO]) ⟨hx, hb, hml, hown, hts⟩ (k_X6_init l dC dI cI xO H.size) (cwI 0 hts gL_law_X6_init rfl rfl rfl (hts _ qL_law_2) (hts _ qL_law_3) (hts _ qL_law_4) rfl (by decide +kernel) ⟨Nat.le_of_ble_eq_true rfl, Nat.le_of_ble_eq_true rfl⟩) ⟨fun a U g mk q => by obtain ⟨q0, q1, qP, qK, qD, qN⟩ := q; exact ⟨q0, q1, qP, va_K.moved (u := U) (U := U.calling g mk a) (Vm.Alike.refl U.vm) qK, qD, qN.calling g mk a⟩, fun U hU hW => ⟨rfl, by rw [hU], by rw [hU]; exact hPc, va_K.moved hW.alike hKc, hDc.weaken (fun _ _ _ _ => trivial), hN.to hW⟩⟩ rfl rfl hl.1 rfl (lv_room (Nat.le_of_ble_eq_true rfl)) dL_law_4 ⟨Nat.le_of_ble_eq_true rfl, Nat.le_of_ble_eq_true rfl⟩) hS (fun q _ h => hFc q h) hFc (fun u9 t H1 locs ht hvm hw hB hz1 hk1 hS => ?_)
  obtain ⟨mS, mA, dS, dA, cO, iA, oA, kO, pO, fO, aO, rA⟩ := u9
  obtain ⟨hP1, hK1, hD1⟩ := hB
  rw [ht] at hP1
  obtain ⟨hP, hD⟩ := va_join (wr := []) (w1 := [(xO, .inr (6, [.ref mS, .ref dS, .ref cO, .ref kO, .ref pO])), (mS, .inr (5, [.ref mA])), (mA, .inl (cI, 4096, .inl (fun _ => 0))), (dS, .inr (5, [.ref dA])), (dA, .inl (cI, 4096, .inl (fun _ => 0))), (cO, .inr (1, [.ref iA, .int 0, .int 0, .ref oA, .int 0])), (iA, .inl (cI, 64, .inl (fun _ => 0))), (oA, .inl (cI, 256, .inl (fun _ => 0))), (kO, .inr (2, [.ref mS, .ref dS, .int 0, .int 0, .int 0, .int 0, .int 0, .int 0, .int 0, .int 0, .int 0])), (pO, .inr (4, [.ref mS, .ref cO, .ref kO, .ref fO, .ref aO, .ref rA, .int 0, .int 0, .int 0, .int 0, .int 0, .int (-1), .long 0])), (fO, .inr (3, [.int 0, .int 0, .int 0, .int 0, .int 0])), (aO, .inr (0, [.ref fO])), (rA, .inl (cI, 8, .inl (fun _ => 0)))]) hP hD [0] [] rfl rfl (by decide) (by decide) hk1 hFc hP1 hD1
  clear hPc hDc hKc hFc hz1 hk1 hP1 hK1 hD1 ht hvm
  have hP : va_P (dC, dI) vwCl [(xO, .inr (6, [.ref mS, .ref dS, .ref cO, .ref kO, .ref pO])), (mS, .inr (5, [.ref mA])), (mA, .inl (cI, 4096, .inl (fun _ => 0))), (dS, .inr (5, [.ref dA])), (dA, .inl (cI, 4096, .inl (fun _ => 0))), (cO, .inr (1, [.ref iA, .int 0, .int 0, .ref oA, .int 0])), (iA, .inl (cI, 64, .inl (fun _ => 0))), (oA, .inl (cI, 256, .inl (fun _ => 0))), (kO, .inr (2, [.ref mS, .ref dS, .int 0, .int 0, .int 0, .int 0, .int 0, .int 0, .int 0, .int 0, .int 0])), (pO, .inr (4, [.ref mS, .ref cO, .ref kO, .ref fO, .ref aO, .ref rA, .int 0, .int 0, .int 0, .int 0, .int 0, .int (-1), .long 0])), (fO, .inr (3, [.int 0, .int 0, .int 0, .int 0, .int 0])), (aO, .inr (0, [.ref fO])), (rA, .inl (cI, 8, .inl (fun _ => 0)))] H1 := hP
  have hD : va_D (fun q : Nat => s.heap.size ≤ q) [(xO, .inr (6, [.ref mS, .ref dS, .ref cO, .ref kO, .ref pO])), (mS, .inr (5, [.ref mA])), (mA, .inl (cI, 4096, .inl (fun _ => 0))), (dS, .inr (5, [.ref dA])), (dA, .inl (cI, 4096, .inl (fun _ => 0))), (cO, .inr (1, [.ref iA, .int 0, .int 0, .ref oA, .int 0])), (iA, .inl (cI, 64, .inl (fun _ => 0))), (oA, .inl (cI, 256, .inl (fun _ => 0))), (kO, .inr (2, [.ref mS, .ref dS, .int 0, .int 0, .int 0, .int 0, .int 0, .int 0, .int 0, .int 0, .int 0])), (pO, .inr (4, [.ref mS, .ref cO, .ref kO, .ref fO, .ref aO, .ref rA, .int 0, .int 0, .int 0, .int 0, .int 0, .int (-1), .long 0])), (fO, .inr (3, [.int 0, .int 0, .int 0, .int 0, .int 0])), (aO, .inr (0, [.ref fO])), (rA, .inl (cI, 8, .inl (fun _ => 0)))] := hD
  generalize H1 = H at hP hS ⊢
  refine lv_astore_n (lv' := [(1, .ref xO), (0, .ref b)]) hx hb dL_law_7 rfl hl (by decide) rfl (fun ls hl => ?_)
  refine va_new (ci := 7) (fs := [.int 0, .null, .null, .null, .int 0, .int 0, .int 0, .int 0, .int 0, .int 0, .int 0, .int 0, .int 0, .int 0, .int 0, .long 0, .int 0, .null, .int 0, .null, .int 0, .int 0, .int 0, .int 0, .int 0, .int 0, .int 0, .int 0, .int 0, .int 0]) (C := RX7) (T := TX7) (N := 30) hx hb hts inlX7 tyX7 tyX7_ok hown (hts _ qL_law_5) (hts _ qL_law_6) (hts _ qL_law_7) hK hP hD hS hA rfl (fun j hj => by rcases (show j = 0 ∨ j = 1 ∨ j = 2 ∨ j = 3 ∨ j = 4 ∨ j = 5 ∨ j = 6 ∨ j = 7 ∨ j = 8 ∨ j = 9 ∨ j = 10 ∨ j = 11 ∨ j = 12 ∨ j = 13 ∨ j = 14 ∨ j = 15 ∨ j = 16 ∨ j = 17 ∨ j = 18 ∨ j = 19 ∨ j = 20 ∨ j = 21 ∨ j = 22 ∨ j = 23 ∨ j = 24 ∨ j = 25 ∨ j = 26 ∨ j = 27 ∨ j = 28 ∨ j = 29 by omega) with rfl | rfl | rfl | rfl | rfl | rfl | rfl | rfl | rfl | rfl | rfl | rfl | rfl | rfl | rfl | rfl | rfl | rfl | rfl | rfl | rfl | rfl | rfl | rfl | rfl | rfl | rfl | rfl | rfl | rfl <;> rfl) (Nat.le_of_ble_eq_true rfl) (Nat.le_of_ble_eq_true rfl) dL_law_8 (fun mO H hP hD hS => ?_)
  have hP : va_P (dC, dI) vwCl [(xO, .inr (6, [.ref mS, .ref dS, .ref cO, .ref kO, .ref pO])), (mS, .inr (5, [.ref mA])), (mA, .inl (cI, 4096, .inl (fun _ => 0))), (dS, .inr (5, [.ref dA])), (dA, .inl (cI, 4096, .inl (fun _ => 0))), (cO, .inr (1, [.ref iA, .int 0, .int 0, .ref oA, .int 0])), (iA, .inl (cI, 64, .inl (fun _ => 0))), (oA, .inl (cI, 256, .inl (fun _ => 0))), (kO, .inr (2, [.ref mS, .ref dS, .int 0, .int 0, .int 0, .int 0, .int 0, .int 0, .int 0, .int 0, .int 0])), (pO, .inr (4, [.ref mS, .ref cO, .ref kO, .ref fO, .ref aO, .ref rA, .int 0, .int 0, .int 0, .int 0, .int 0, .int (-1), .long 0])), (fO, .inr (3, [.int 0, .int 0, .int 0, .int 0, .int 0])), (aO, .inr (0, [.ref fO])), (rA, .inl (cI, 8, .inl (fun _ => 0))), (mO, .inr (7, [.int 0, .null, .null, .null, .int 0, .int 0, .int 0, .int 0, .int 0, .int 0, .int 0, .int 0, .int 0, .int 0, .int 0, .long 0, .int 0, .null, .int 0, .null, .int 0, .int 0, .int 0, .int 0, .int 0, .int 0, .int 0, .int 0, .int 0, .int 0]))] H := hP
  have hD : va_D (fun q : Nat => s.heap.size ≤ q) [(xO, .inr (6, [.ref mS, .ref dS, .ref cO, .ref kO, .ref pO])), (mS, .inr (5, [.ref mA])), (mA, .inl (cI, 4096, .inl (fun _ => 0))), (dS, .inr (5, [.ref dA])), (dA, .inl (cI, 4096, .inl (fun _ => 0))), (cO, .inr (1, [.ref iA, .int 0, .int 0, .ref oA, .int 0])), (iA, .inl (cI, 64, .inl (fun _ => 0))), (oA, .inl (cI, 256, .inl (fun _ => 0))), (kO, .inr (2, [.ref mS, .ref dS, .int 0, .int 0, .int 0, .int 0, .int 0, .int 0, .int 0, .int 0, .int 0])), (pO, .inr (4, [.ref mS, .ref cO, .ref kO, .ref fO, .ref aO, .ref rA, .int 0, .int 0, .int 0, .int 0, .int 0, .int (-1), .long 0])), (fO, .inr (3, [.int 0, .int 0, .int 0, .int 0, .int 0])), (aO, .inr (0, [.ref fO])), (rA, .inl (cI, 8, .inl (fun _ => 0))), (mO, .inr (7, [.int 0, .null, .null, .null, .int 0, .int 0, .int 0, .int 0, .int 0, .int 0, .int 0, .int 0, .int 0, .int 0, .int 0, .long 0, .int 0, .null, .int 0, .null, .int 0, .int 0, .int 0, .int 0, .int 0, .int 0, .int 0, .int 0, .int 0, .int 0]))] := hD
  refine lv_dup hx hb dL_law_11 rfl ?_
  have hPc := hP.sub (ws' := [(mO, .inr (7, [.int 0, .null, .null, .null, .int 0, .int 0, .int 0, .int 0, .int 0, .int 0, .int 0, .int 0, .int 0, .int 0, .int 0, .long 0, .int 0, .null, .int 0, .null, .int 0, .int 0, .int 0, .int 0, .int 0, .int 0, .int 0, .int 0, .int 0, .int 0]))]) [13] rfl
  have hDc := hD.sub (ws' := [(mO, .inr (7, [.int 0, .null, .null, .null, .int 0, .int 0, .int 0, .int 0, .int 0, .int 0, .int 0, .int 0, .int 0, .int 0, .int 0, .long 0, .int 0, .null, .int 0, .null, .int 0, .int 0, .int 0, .int 0, .int 0, .int 0, .int 0, .int 0, .int 0, .int 0]))]) [13] (by decide) rfl
  have hKc := hK.sub (tys' := [(cI, .int)]) [0] rfl
  have hFc := va_free (wc := [(mO, .inr (7, [.int 0, .null, .null, .null, .int 0, .int 0, .int 0, .int 0, .int 0, .int 0, .int 0, .int 0, .int 0, .int 0, .int 0, .long 0, .int 0, .null, .int 0, .null, .int 0, .int 0, .int 0, .int 0, .int 0, .int 0, .int 0, .int 0, .int 0, .int 0]))]) hD hS hA [13] rfl
  refine va_callv (va_runI (As := []) (rest := [.ref mO]) ⟨hx, hb, hml, hown, hts⟩ (k_X7_init l dC dI cI mO H.size) (cwI 0 hts gL_law_X7_init rfl rfl rfl (hts _ qL_law_7) (hts _ qL_law_8) (hts _ qL_law_9) rfl (by decide +kernel) ⟨Nat.le_of_ble_eq_true rfl, Nat.le_of_ble_eq_true rfl⟩) ⟨fun a U g mk q => by obtain ⟨q0, q1, qP, qK, qD⟩ := q; exact ⟨q0, q1, qP, va_K.moved (u := U) (U := U.calling g mk a) (Vm.Alike.refl U.vm) qK, qD⟩, fun U hU hW => ⟨rfl, by rw [hU], by rw [hU]; exact hPc, va_K.moved hW.alike hKc, hDc.weaken (fun _ _ _ _ => trivial)⟩⟩ rfl rfl hl.1 rfl (lv_room (Nat.le_of_ble_eq_true rfl)) dL_law_12 ⟨Nat.le_of_ble_eq_true rfl, Nat.le_of_ble_eq_true rfl⟩) hS (fun q _ h => hFc q h) hFc (fun u9 t H1 locs ht hvm hw hB hz1 hk1 hS => ?_)
  obtain ⟨memA, dskA, rgA, inA, outA⟩ := u9
  obtain ⟨hP1, hK1, hD1⟩ := hB
  rw [ht] at hP1
  obtain ⟨hP, hD⟩ := va_join (wr := [(xO, .inr (6, [.ref mS, .ref dS, .ref cO, .ref kO, .ref pO])), (mS, .inr (5, [.ref mA])), (mA, .inl (cI, 4096, .inl (fun _ => 0))), (dS, .inr (5, [.ref dA])), (dA, .inl (cI, 4096, .inl (fun _ => 0))), (cO, .inr (1, [.ref iA, .int 0, .int 0, .ref oA, .int 0])), (iA, .inl (cI, 64, .inl (fun _ => 0))), (oA, .inl (cI, 256, .inl (fun _ => 0))), (kO, .inr (2, [.ref mS, .ref dS, .int 0, .int 0, .int 0, .int 0, .int 0, .int 0, .int 0, .int 0, .int 0])), (pO, .inr (4, [.ref mS, .ref cO, .ref kO, .ref fO, .ref aO, .ref rA, .int 0, .int 0, .int 0, .int 0, .int 0, .int (-1), .long 0])), (fO, .inr (3, [.int 0, .int 0, .int 0, .int 0, .int 0])), (aO, .inr (0, [.ref fO])), (rA, .inl (cI, 8, .inl (fun _ => 0)))]) (w1 := [(mO, .inr (7, [.int 0, .ref memA, .ref dskA, .ref rgA, .int 0, .int 0, .int 0, .int 0, .int 0, .int 0, .int 0, .int 0, .int 0, .int 0, .int (-1), .long 0, .int 0, .ref inA, .int 0, .ref outA, .int 0, .int 0, .int 0, .int 0, .int 0, .int 0, .int 0, .int 0, .int 0, .int 0])), (memA, .inl (cI, 4096, .inl (fun _ => 0))), (dskA, .inl (cI, 4096, .inl (fun _ => 0))), (rgA, .inl (cI, 8, .inl (fun _ => 0))), (inA, .inl (cI, 64, .inl (fun _ => 0))), (outA, .inl (cI, 256, .inl (fun _ => 0)))]) hP hD [13] [0, 1, 2, 3, 4, 5, 6, 7, 8, 9, 10, 11, 12] rfl rfl (by decide) (by decide) hk1 hFc hP1 hD1
  clear hPc hDc hKc hFc hz1 hk1 hP1 hK1 hD1 ht hvm
  have hP : va_P (dC, dI) vwCl [(xO, .inr (6, [.ref mS, .ref dS, .ref cO, .ref kO, .ref pO])), (mS, .inr (5, [.ref mA])), (mA, .inl (cI, 4096, .inl (fun _ => 0))), (dS, .inr (5, [.ref dA])), (dA, .inl (cI, 4096, .inl (fun _ => 0))), (cO, .inr (1, [.ref iA, .int 0, .int 0, .ref oA, .int 0])), (iA, .inl (cI, 64, .inl (fun _ => 0))), (oA, .inl (cI, 256, .inl (fun _ => 0))), (kO, .inr (2, [.ref mS, .ref dS, .int 0, .int 0, .int 0, .int 0, .int 0, .int 0, .int 0, .int 0, .int 0])), (pO, .inr (4, [.ref mS, .ref cO, .ref kO, .ref fO, .ref aO, .ref rA, .int 0, .int 0, .int 0, .int 0, .int 0, .int (-1), .long 0])), (fO, .inr (3, [.int 0, .int 0, .int 0, .int 0, .int 0])), (aO, .inr (0, [.ref fO])), (rA, .inl (cI, 8, .inl (fun _ => 0))), (mO, .inr (7, [.int 0, .ref memA, .ref dskA, .ref rgA, .int 0, .int 0, .int 0, .int 0, .int 0, .int 0, .int 0, .int 0, .int 0, .int 0, .int (-1), .long 0, .int 0, .ref inA, .int 0, .ref outA, .int 0, .int 0, .int 0, .int 0, .int 0, .int 0, .int 0, .int 0, .int 0, .int 0])), (memA, .inl (cI, 4096, .inl (fun _ => 0))), (dskA, .inl (cI, 4096, .inl (fun _ => 0))), (rgA, .inl (cI, 8, .inl (fun _ => 0))), (inA, .inl (cI, 64, .inl (fun _ => 0))), (outA, .inl (cI, 256, .inl (fun _ => 0)))] H1 := hP
  have hD : va_D (fun q : Nat => s.heap.size ≤ q) [(xO, .inr (6, [.ref mS, .ref dS, .ref cO, .ref kO, .ref pO])), (mS, .inr (5, [.ref mA])), (mA, .inl (cI, 4096, .inl (fun _ => 0))), (dS, .inr (5, [.ref dA])), (dA, .inl (cI, 4096, .inl (fun _ => 0))), (cO, .inr (1, [.ref iA, .int 0, .int 0, .ref oA, .int 0])), (iA, .inl (cI, 64, .inl (fun _ => 0))), (oA, .inl (cI, 256, .inl (fun _ => 0))), (kO, .inr (2, [.ref mS, .ref dS, .int 0, .int 0, .int 0, .int 0, .int 0, .int 0, .int 0, .int 0, .int 0])), (pO, .inr (4, [.ref mS, .ref cO, .ref kO, .ref fO, .ref aO, .ref rA, .int 0, .int 0, .int 0, .int 0, .int 0, .int (-1), .long 0])), (fO, .inr (3, [.int 0, .int 0, .int 0, .int 0, .int 0])), (aO, .inr (0, [.ref fO])), (rA, .inl (cI, 8, .inl (fun _ => 0))), (mO, .inr (7, [.int 0, .ref memA, .ref dskA, .ref rgA, .int 0, .int 0, .int 0, .int 0, .int 0, .int 0, .int 0, .int 0, .int 0, .int 0, .int (-1), .long 0, .int 0, .ref inA, .int 0, .ref outA, .int 0, .int 0, .int 0, .int 0, .int 0, .int 0, .int 0, .int 0, .int 0, .int 0])), (memA, .inl (cI, 4096, .inl (fun _ => 0))), (dskA, .inl (cI, 4096, .inl (fun _ => 0))), (rgA, .inl (cI, 8, .inl (fun _ => 0))), (inA, .inl (cI, 64, .inl (fun _ => 0))), (outA, .inl (cI, 256, .inl (fun _ => 0)))] := hD
  generalize H1 = H at hP hS ⊢
  refine lv_astore_n (lv' := [(2, .ref mO), (1, .ref xO), (0, .ref b)]) hx hb dL_law_15 rfl hl (by decide) rfl (fun ls hl => ?_)
  refine lv_iconst (v := 1) hx hb dL_law_16 (by decide) ?_
  refine va_newa (atype := .long) (ty := .long) (a0 := (1, .inr (.inl (fun _ => 0)))) (N' := 1) hx hb (hts _ qL_law_10) rfl hK hP hD hS hA (fun _ => rfl) (by decide) (by decide) (by decide) (Nat.le_of_ble_eq_true rfl) (Nat.le_of_ble_eq_true rfl) dL_law_17 (fun oL cJ H hK hP hD hS => ?_)
  refine lv_astore_n (lv' := [(3, .ref oL), (2, .ref mO), (1, .ref xO), (0, .ref b)]) hx hb dL_law_19 rfl hl (by decide) rfl (fun ls hl => ?_)
  refine lv_iconst (v := 0) hx hb dL_law_20 (by decide) ?_
  refine lv_istore (lv' := [(4, .int 0), (3, .ref oL), (2, .ref mO), (1, .ref xO), (0, .ref b)]) hx hb dL_law_21 hl (by decide) rfl (fun ls hl => ?_)
  have hP9 := hP.sub (ws' := (wW cI cJ oL xO pO mS mA dS dA cO iA oA kO fO aO rA mO memA dskA rgA inA outA pw0 (fun _ => 0) mw0)) [19, 0, 9, 1, 2, 3, 4, 5, 6, 7, 8, 10, 11, 12, 13, 14, 15, 16, 17, 18] rfl
  have hD9 := hD.sub (ws' := (wW cI cJ oL xO pO mS mA dS dA cO iA oA kO fO aO rA mO memA dskA rgA inA outA pw0 (fun _ => 0) mw0)) [19, 0, 9, 1, 2, 3, 4, 5, 6, 7, 8, 10, 11, 12, 13, 14, 15, 16, 17, 18] (by decide) rfl
  refine W.widen (k := 20 + 0) (n := 17113 + 6 * 0) (Nat.le_of_ble_eq_true rfl) (Nat.le_of_ble_eq_true rfl) ?_
  exact law_loop hl0 hL C0 dC dI cI cJ oL xO pO mS mA dS dA cO iA oA kO fO aO rA mO memA dskA rgA inA outA hK hT (L + 2) 0 0 pw0 (fun _ => 0) mw0 _ _ _ (by omega) (by omega) nI_0.symm R_init hP9 hD9 hS (lv_sub hl [4, 3, 2, 1, 0] rfl)
