theorem nI_3 (j : Nat) : nI (3 * j) + 3 = nI (3 * (j + 1)) := by
  rw [show (3 : Int32) = nI 3 from rfl, nI_add]
  rfl
set_option maxHeartbeats 40000000 in
set_option maxRecDepth 100000 in
/-- the law's loop -/
theorem law_loop {p : Program} {e : Env} {s : State} {m : MethodId} {below : List Frame} {meth : Method} {c : Code} {l : Launch} (hl0 : l.stackTraces = false) {b L : Nat} {xs : Nat → Int32} (hL : L ≤ 1536) (C0 : lw_At p s m meth c b L xs) (dC : Nat → ClassId) (dI : Nat → Nat → Nat) (cI cJ : ClassId) (oL xO pO mS mA dS dA cO iA oA kO fO aO rA mO memA dskA rgA inA outA : Nat) (hK : va_K (dC, dI) vwCl [(cI, .int), (cJ, .long)] s) (hT : tE (fun q : Nat => s.heap.size ≤ q) s) :
    ∀ (n j : Nat) (i : Int32) (u : PW) (g : Nat → Int64) (v : MW) (H : Heap) (locs : List Loc) (ls : Array Slot), L + 3 ≤ 3 * (j + n) → 3 * j ≤ L → i = nI (3 * j) → Rel j u v → va_P (dC, dI) vwCl (wW cI cJ oL xO pO mS mA dS dA cO iA oA kO fO aO rA mO memA dskA rgA inA outA u g v) H → va_D (fun q : Nat => s.heap.size ≤ q) (wW cI cJ oL xO pO mS mA dS dA cO iA oA kO fO aO rA mO memA dskA rgA inA outA u g v) → va_S (fun q : Nat => s.heap.size ≤ q) s.heap H locs → lv_has ls 7 [(0, .ref b), (1, .ref xO), (2, .ref mO), (3, .ref oL), (4, .int i)] →
      W p l e room_1 s m #[Value.ref b] below meth c H locs (20 + j) (17113 + 6 * j) (lw_Z below #[Value.ref b] s) (F0 m 23 ls []) := by
  obtain ⟨hx, hb, hr, hml, hown, hts0, hX, hbl, hlocks, hgv⟩ := id C0
  have hts : ∀ w ∈ wsL_law, w.before #[Value.ref b] s = true := fun w h => hts0 w (wsL_law_in w h)
  have hA : ∀ q : Nat, s.heap.size ≤ q → (fun q : Nat => s.heap.size ≤ q) q := fun _ h => h
  have hbA : ¬ (fun q : Nat => s.heap.size ≤ q) b := Nat.not_le.mpr hbl
  intro n
  induction n with
  | zero => intro j i u g v H locs ls hn hj; omega
  | succ n ih =>
    intro j i u g v H locs ls hn hj hi hRel hP hD hS hl
    refine lv_iload hx hb dL_law_23 (lv_at hl 4 rfl) ?_
    refine lv_aload_n hx hb dL_law_25 rfl (lv_at hl 0 rfl) ?_
    refine va_slen hx hb hX hbl hbA hS dL_law_26 ?_
    refine lv_iconst (v := 3) hx hb dL_law_27 (by decide) ?_
    refine lv_isub hx hb dL_law_28 ?_
    refine lv_icmp_gt (tgt := 766) hx hb dL_law_29 (by decide) (fun c0 => ?_) (fun c0 => ?_)
    · refine lv_iconst (v := 1) hx hb dL_law_766 (by decide) ?_
      refine va_forget (fun q hq => hS.2.2 q hq) ?_
      refine W.widen (k := 1055) (n := 25371) (by omega) (by omega) ?_
      exact lw_ret hx hb hr hlocks dL_law_767
    · have h3 : 3 * j + 3 ≤ L := law_ix hL hj hi c0
      have hj5 : j < 512 := by omega
      have ix0 : vp_in i L := by rw [hi]; exact vp_in_nI (by omega) (by omega)
      have ix1 : vp_in (i + (1 : Int32)) L := by rw [hi, nI_1]; exact vp_in_nI (by omega) (by omega)
      have ix2 : vp_in (i + (2 : Int32)) L := by rw [hi, show (2 : Int32) = nI 2 from rfl, nI_add]; exact vp_in_nI (by omega) (by omega)
      refine lv_aload_n hx hb dL_law_32 rfl (lv_at hl 0 rfl) ?_
      refine lv_iload hx hb dL_law_33 (lv_at hl 4 rfl) ?_
      refine va_sld hx hb hX hbl hbA hS ix0 dL_law_35 ?_
      refine lv_bipush (v := 15) hx hb dL_law_36 (by decide) ?_
      refine lv_iand hx hb dL_law_38 ?_
      by_cases q0 : (xs (i).toNatClampNeg &&& (15 : Int32)) = 0
      · refine tb_in (k := 0) (off := 69) (tgt := 108) hx hb dL_law_39 q0 (by decide) (by decide) (by decide) (by decide) ?_
        refine lv_aload_n hx hb dL_law_108 rfl (lv_at hl 1 rfl) ?_
        refine lv_aload_n hx hb dL_law_109 rfl (lv_at hl 0 rfl) ?_
        refine lv_iload hx hb dL_law_110 (lv_at hl 4 rfl) ?_
        refine lv_iconst (v := 1) hx hb dL_law_112 (by decide) ?_
        refine lv_iadd hx hb dL_law_113 ?_
        refine va_sld hx hb hX hbl hbA hS ix1 dL_law_114 ?_
        refine lv_aload_n hx hb dL_law_115 rfl (lv_at hl 0 rfl) ?_
        refine lv_iload hx hb dL_law_116 (lv_at hl 4 rfl) ?_
        refine lv_iconst (v := 2) hx hb dL_law_118 (by decide) ?_
        refine lv_iadd hx hb dL_law_119 ?_
        refine va_sld hx hb hX hbl hbA hS ix2 dL_law_120 ?_
        refine lv_aload_n hx hb dL_law_121 rfl (lv_at hl 3 rfl) ?_
        obtain ⟨hPc, hDc, hFc⟩ := xW_L hP hD hS hA
        have hKc := hK.sub (tys' := [(cI, .int), (cJ, .long)]) [0, 1] rfl
        refine va_calli (vx_runSW (hh := [(0, 10, 13, 13)]) (As := [.ref xO, .int (xs (i + (1 : Int32)).toNatClampNeg), .int (xs (i + (2 : Int32)).toNatClampNeg), .ref oL]) (rest := []) ⟨hx, hb, hml, hown, hts⟩ (k_L_write l hl0 dC dI cI cJ oL xO pO mS mA dS dA cO iA oA kO fO aO rA H.size u g (xs (i + (1 : Int32)).toNatClampNeg) (xs (i + (2 : Int32)).toNatClampNeg)) (vx_cwSW 4 hts gL_law_L_write rfl rfl rfl (by decide +kernel) ⟨Nat.le_of_ble_eq_true rfl, Nat.le_of_ble_eq_true rfl⟩) ⟨fun a U g mk q => by obtain ⟨q0, q1, qP, qK, qD, qT⟩ := q; exact ⟨q0, q1, qP, va_K.moved (u := U) (U := U.calling g mk a) (Vm.Alike.refl U.vm) qK, qD, qT.calling g mk a⟩, fun U hU hW => ⟨rfl, by rw [hU], by rw [hU]; exact hPc, va_K.moved hW.alike hKc, hDc.weaken (fun _ _ _ _ => trivial), hT.to hS hFc hU hW⟩⟩ rfl rfl hl.1 rfl (lv_room (Nat.le_of_ble_eq_true rfl)) dL_law_122 ⟨by show 20 + j + 1 ≤ 1055; omega, by show 17113 + 6 * j + 6 ≤ 25371; omega⟩) hS (fun q _ h => hFc q h) hFc (fun r9 x9 t H1 locs ht hvm hw hB hz1 hk1 hS => ?_)
        have hw1 : (f_L_write u g (xs (i + (1 : Int32)).toNatClampNeg) (xs (i + (2 : Int32)).toNatClampNeg)).1 = r9 := (congrArg Prod.fst hw).symm
        have hw2 : (f_L_write u g (xs (i + (1 : Int32)).toNatClampNeg) (xs (i + (2 : Int32)).toNatClampNeg)).2 = x9 := (congrArg Prod.snd hw).symm
        subst hw1 hw2
        clear hw
        obtain ⟨hP1, hK1, hD1⟩ := hB
        rw [ht] at hP1
        obtain ⟨hP, hD⟩ := jW_L hP hD hk1 hFc hP1 hD1
        clear hPc hDc hKc hFc hz1 hk1 hP1 hK1 hD1 ht hvm
        generalize H1 = H at hP hS ⊢
        refine lv_istore (lv' := [(5, .int (f_L_write u g (xs (i + (1 : Int32)).toNatClampNeg) (xs (i + (2 : Int32)).toNatClampNeg)).1), (0, .ref b), (1, .ref xO), (2, .ref mO), (3, .ref oL), (4, .int i)]) hx hb dL_law_125 hl (by decide) rfl (fun ls hl => ?_)
        refine lv_aload_n hx hb dL_law_127 rfl (lv_at hl 3 rfl) ?_
        refine lv_aload_n hx hb dL_law_128 rfl (lv_at hl 1 rfl) ?_
        refine lv_iload hx hb dL_law_129 (lv_at hl 5 rfl) ?_
        refine lv_iconst (v := 1) hx hb dL_law_131 (by decide) ?_
        refine lv_iadd hx hb dL_law_132 ?_
        refine va_sld hx hb hX hbl hbA hS ix1 dL_law_133 ?_
        refine lv_aload_n hx hb dL_law_134 rfl (lv_at hl 1 rfl) ?_
        refine lv_iload hx hb dL_law_135 (lv_at hl 5 rfl) ?_
        refine lv_iconst (v := 2) hx hb dL_law_137 (by decide) ?_
        refine lv_iadd hx hb dL_law_138 ?_
        refine va_sld hx hb hX hbl hbA hS ix2 dL_law_139 ?_
        obtain ⟨hPc, hDc, hFc⟩ := xW_M hP hD hS hA
        have hKc := hK.sub (tys' := [(cI, .int)]) [0] rfl
        refine va_calli (va_runV (As := [.int (xs (i + (1 : Int32)).toNatClampNeg), .int (xs (i + (2 : Int32)).toNatClampNeg)]) (rest := []) ⟨hx, hb, hml, hown, hts⟩ (k_X7_write l dC dI cI mO memA dskA rgA inA outA H.size v (xs (i + (1 : Int32)).toNatClampNeg) (xs (i + (2 : Int32)).toNatClampNeg)) (cwV 2 hts gL_law_X7_write rfl rfl rfl (by decide +kernel) ⟨Nat.le_of_ble_eq_true rfl, Nat.le_of_ble_eq_true rfl⟩) ⟨fun a U g mk q => by obtain ⟨q0, q1, qP, qK, qD⟩ := q; exact ⟨q0, q1, qP, va_K.moved (u := U) (U := U.calling g mk a) (Vm.Alike.refl U.vm) qK, qD⟩, va_recv hKc hPc (ci := 7) (q0 := 0) rfl rfl, fun U hU hW => ⟨rfl, by rw [hU], by rw [hU]; exact hPc, va_K.moved hW.alike hKc, hDc.weaken (fun _ _ _ _ => trivial)⟩⟩ rfl rfl hl.1 rfl (lv_room (Nat.le_of_ble_eq_true rfl)) dL_law_140 ⟨by show 20 + j + 1 + 0 ≤ 1055; omega, by show 17113 + 6 * j + 6 + 0 ≤ 25371; omega⟩) hS (fun q _ h => hFc q h) hFc (fun r9 u9 t H1 locs ht hvm hw hB hz1 hk1 hS => ?_)
        obtain ⟨hw1, hw2⟩ := hw
        have hw1 := hw1.symm
        have hw2 := hw2.symm
        subst hw1 hw2
        obtain ⟨hP1, hK1, hD1⟩ := hB
        rw [ht] at hP1
        obtain ⟨hP, hD⟩ := jW_M hP hD hk1 hFc hP1 hD1
        clear hPc hDc hKc hFc hz1 hk1 hP1 hK1 hD1 ht hvm
        generalize H1 = H at hP hS ⊢
        refine lv_istore (lv' := [(6, .int (f_X7_write v (xs (i + (1 : Int32)).toNatClampNeg) (xs (i + (2 : Int32)).toNatClampNeg)).1), (5, .int (f_L_write u g (xs (i + (1 : Int32)).toNatClampNeg) (xs (i + (2 : Int32)).toNatClampNeg)).1), (0, .ref b), (1, .ref xO), (2, .ref mO), (3, .ref oL), (4, .int i)]) hx hb dL_law_143 hl (by decide) rfl (fun ls hl => ?_)
        refine lv_aload_n hx hb dL_law_145 rfl (lv_at hl 4 rfl) ?_
        obtain ⟨hPc, hDc, hFc⟩ := xW_M hP hD hS hA
        have hKc := hK.sub (tys' := [(cI, .int)]) [0] rfl
        refine va_calli (va_runV (As := []) (rest := []) ⟨hx, hb, hml, hown, hts⟩ (k_X7_thrown l dC dI cI mO memA dskA rgA inA outA H.size (f_X7_write v (xs (i + (1 : Int32)).toNatClampNeg) (xs (i + (2 : Int32)).toNatClampNeg)).2) (cwV 0 hts gL_law_X7_thrown rfl rfl rfl (by decide +kernel) ⟨Nat.le_of_ble_eq_true rfl, Nat.le_of_ble_eq_true rfl⟩) ⟨fun a U g mk q => by obtain ⟨q0, q1, qP, qK, qD⟩ := q; exact ⟨q0, q1, qP, va_K.moved (u := U) (U := U.calling g mk a) (Vm.Alike.refl U.vm) qK, qD⟩, va_recv hKc hPc (ci := 7) (q0 := 0) rfl rfl, fun U hU hW => ⟨rfl, by rw [hU], by rw [hU]; exact hPc, va_K.moved hW.alike hKc, hDc.weaken (fun _ _ _ _ => trivial)⟩⟩ rfl rfl hl.1 rfl (lv_room (Nat.le_of_ble_eq_true rfl)) dL_law_146 ⟨by show 20 + j + 1 + 0 + 0 ≤ 1055; omega, by show 17113 + 6 * j + 6 + 0 + 0 ≤ 25371; omega⟩) hS (fun q _ h => hFc q h) hFc (fun r9 u9 t H1 locs ht hvm hw hB hz1 hk1 hS => ?_)
        obtain ⟨hw1, hw2⟩ := hw
        have hw1 := hw1.symm
        have hw2 := hw2.symm
        subst hw1 hw2
        obtain ⟨hP1, hK1, hD1⟩ := hB
        rw [ht] at hP1
        obtain ⟨hP, hD⟩ := jW_M0 hP hD hk1 hFc hP1 hD1
        clear hPc hDc hKc hFc hz1 hk1 hP1 hK1 hD1 ht hvm
        generalize H1 = H at hP hS ⊢
        refine lv_iload hx hb dL_law_149 (lv_at hl 1 rfl) ?_
        have hR := R_write (g := g) (a1 := (xs (i + (1 : Int32)).toNatClampNeg)) (a2 := (xs (i + (2 : Int32)).toNatClampNeg)) hj5 hRel
        refine lv_icmp_eq (tgt := 156) hx hb dL_law_151 (by decide) (fun c9 => ?_) (fun c9 => absurd hR.1 c9)
        refine lv_iload hx hb dL_law_156 (lv_at hl 1 rfl) ?_
        refine lv_if_ne (tgt := 173) hx hb dL_law_158 (by decide) (fun c8 => ?_) (fun c8 => ?_)
        · skip
          refine lv_goto (tgt := 760) hx hb dL_law_173 (by decide) ?_
          refine lv_iinc (v := (i + (3 : Int32))) (lv' := [(4, .int (i + (3 : Int32))), (6, .int (f_X7_write v (xs (i + (1 : Int32)).toNatClampNeg) (xs (i + (2 : Int32)).toNatClampNeg)).1), (5, .int (f_L_write u g (xs (i + (1 : Int32)).toNatClampNeg) (xs (i + (2 : Int32)).toNatClampNeg)).1), (0, .ref b), (1, .ref xO), (2, .ref mO), (3, .ref oL)]) hx hb dL_law_760 hl (k := 6) rfl rfl (by decide) rfl (fun ls hl => ?_)
          refine lv_goto (tgt := 23) hx hb dL_law_763 (by decide) ?_
          refine W.widen (k := 20 + (j + 1)) (n := 17113 + 6 * (j + 1)) (by omega) (by omega) ?_
          exact ih (j + 1) (i + (3 : Int32)) (f_L_write u g (xs (i + (1 : Int32)).toNatClampNeg) (xs (i + (2 : Int32)).toNatClampNeg)).2.1 (f_L_write u g (xs (i + (1 : Int32)).toNatClampNeg) (xs (i + (2 : Int32)).toNatClampNeg)).2.2 (f_X7_write v (xs (i + (1 : Int32)).toNatClampNeg) (xs (i + (2 : Int32)).toNatClampNeg)).2 _ _ _ (by omega) (by omega) (by rw [hi]; exact nI_3 j) (hR.2.2) hP hD hS (lv_sub hl [3, 4, 5, 6, 0] rfl)
        · skip
          refine lv_aload_n hx hb dL_law_161 rfl (lv_at hl 5 rfl) ?_
          refine lv_iconst (v := 0) hx hb dL_law_162 (by decide) ?_
          refine va_lald (f := (f_L_write u g (xs (i + (1 : Int32)).toNatClampNeg) (xs (i + (2 : Int32)).toNatClampNeg)).2.2) hx hb hK hP 0 1 rfl rfl (ix_lit (by decide)) dL_law_163 ?_
          refine lv_iload hx hb dL_law_164 (lv_at hl 0 rfl) ?_
          refine lv_i2l (v := ((f_X7_write v (xs (i + (1 : Int32)).toNatClampNeg) (xs (i + (2 : Int32)).toNatClampNeg)).1).toInt64) hx hb dL_law_166 rfl ?_
          refine W.lcmp hx hb dL_law_167 ?_
          refine lv_if_eq (tgt := 173) hx hb dL_law_168 (by decide) (fun c7 => ?_) (fun c7 => absurd (lg_cmp_same (hR.2.1 c8)) c7)
          refine lv_goto (tgt := 760) hx hb dL_law_173 (by decide) ?_
          refine lv_iinc (v := (i + (3 : Int32))) (lv' := [(4, .int (i + (3 : Int32))), (6, .int (f_X7_write v (xs (i + (1 : Int32)).toNatClampNeg) (xs (i + (2 : Int32)).toNatClampNeg)).1), (5, .int (f_L_write u g (xs (i + (1 : Int32)).toNatClampNeg) (xs (i + (2 : Int32)).toNatClampNeg)).1), (0, .ref b), (1, .ref xO), (2, .ref mO), (3, .ref oL)]) hx hb dL_law_760 hl (k := 6) rfl rfl (by decide) rfl (fun ls hl => ?_)
          refine lv_goto (tgt := 23) hx hb dL_law_763 (by decide) ?_
          refine W.widen (k := 20 + (j + 1)) (n := 17113 + 6 * (j + 1)) (by omega) (by omega) ?_
          exact ih (j + 1) (i + (3 : Int32)) (f_L_write u g (xs (i + (1 : Int32)).toNatClampNeg) (xs (i + (2 : Int32)).toNatClampNeg)).2.1 (f_L_write u g (xs (i + (1 : Int32)).toNatClampNeg) (xs (i + (2 : Int32)).toNatClampNeg)).2.2 (f_X7_write v (xs (i + (1 : Int32)).toNatClampNeg) (xs (i + (2 : Int32)).toNatClampNeg)).2 _ _ _ (by omega) (by omega) (by rw [hi]; exact nI_3 j) (hR.2.2) hP hD hS (lv_sub hl [3, 4, 5, 6, 0] rfl)
      · skip
        by_cases q1 : (xs (i).toNatClampNeg &&& (15 : Int32)) = 1
        · refine tb_in (k := 1) (off := 137) (tgt := 176) hx hb dL_law_39 q1 (by decide) (by decide) (by decide) (by decide) ?_
          refine lv_aload_n hx hb dL_law_176 rfl (lv_at hl 1 rfl) ?_
          refine lv_aload_n hx hb dL_law_177 rfl (lv_at hl 0 rfl) ?_
          refine lv_iload hx hb dL_law_178 (lv_at hl 4 rfl) ?_
          refine lv_iconst (v := 1) hx hb dL_law_180 (by decide) ?_
          refine lv_iadd hx hb dL_law_181 ?_
          refine va_sld hx hb hX hbl hbA hS ix1 dL_law_182 ?_
          refine lv_aload_n hx hb dL_law_183 rfl (lv_at hl 3 rfl) ?_
          obtain ⟨hPc, hDc, hFc⟩ := xW_L hP hD hS hA
          have hKc := hK.sub (tys' := [(cI, .int), (cJ, .long)]) [0, 1] rfl
          refine va_calli (vx_runSW (hh := [(0, 9, 12, 13)]) (As := [.ref xO, .int (xs (i + (1 : Int32)).toNatClampNeg), .ref oL]) (rest := []) ⟨hx, hb, hml, hown, hts⟩ (k_L_read l hl0 dC dI cI cJ oL xO pO mS mA dS dA cO iA oA kO fO aO rA H.size u g (xs (i + (1 : Int32)).toNatClampNeg)) (vx_cwSW 3 hts gL_law_L_read rfl rfl rfl (by decide +kernel) ⟨Nat.le_of_ble_eq_true rfl, Nat.le_of_ble_eq_true rfl⟩) ⟨fun a U g mk q => by obtain ⟨q0, q1, qP, qK, qD, qT⟩ := q; exact ⟨q0, q1, qP, va_K.moved (u := U) (U := U.calling g mk a) (Vm.Alike.refl U.vm) qK, qD, qT.calling g mk a⟩, fun U hU hW => ⟨rfl, by rw [hU], by rw [hU]; exact hPc, va_K.moved hW.alike hKc, hDc.weaken (fun _ _ _ _ => trivial), hT.to hS hFc hU hW⟩⟩ rfl rfl hl.1 rfl (lv_room (Nat.le_of_ble_eq_true rfl)) dL_law_184 ⟨by show 20 + j + 1 ≤ 1055; omega, by show 17113 + 6 * j + 6 ≤ 25371; omega⟩) hS (fun q _ h => hFc q h) hFc (fun r9 x9 t H1 locs ht hvm hw hB hz1 hk1 hS => ?_)
          have hw1 : (f_L_read u g (xs (i + (1 : Int32)).toNatClampNeg)).1 = r9 := (congrArg Prod.fst hw).symm
          have hw2 : (f_L_read u g (xs (i + (1 : Int32)).toNatClampNeg)).2 = x9 := (congrArg Prod.snd hw).symm
          subst hw1 hw2
          clear hw
          obtain ⟨hP1, hK1, hD1⟩ := hB
          rw [ht] at hP1
          obtain ⟨hP, hD⟩ := jW_L hP hD hk1 hFc hP1 hD1
          clear hPc hDc hKc hFc hz1 hk1 hP1 hK1 hD1 ht hvm
          generalize H1 = H at hP hS ⊢
          refine lv_istore (lv' := [(5, .int (f_L_read u g (xs (i + (1 : Int32)).toNatClampNeg)).1), (0, .ref b), (1, .ref xO), (2, .ref mO), (3, .ref oL), (4, .int i)]) hx hb dL_law_187 hl (by decide) rfl (fun ls hl => ?_)
          refine lv_aload_n hx hb dL_law_189 rfl (lv_at hl 3 rfl) ?_
          refine lv_aload_n hx hb dL_law_190 rfl (lv_at hl 1 rfl) ?_
          refine lv_iload hx hb dL_law_191 (lv_at hl 5 rfl) ?_
          refine lv_iconst (v := 1) hx hb dL_law_193 (by decide) ?_
          refine lv_iadd hx hb dL_law_194 ?_
          refine va_sld hx hb hX hbl hbA hS ix1 dL_law_195 ?_
          obtain ⟨hPc, hDc, hFc⟩ := xW_M hP hD hS hA
          have hKc := hK.sub (tys' := [(cI, .int)]) [0] rfl
          refine va_calli (va_runV (As := [.int (xs (i + (1 : Int32)).toNatClampNeg)]) (rest := []) ⟨hx, hb, hml, hown, hts⟩ (k_X7_read l dC dI cI mO memA dskA rgA inA outA H.size v (xs (i + (1 : Int32)).toNatClampNeg)) (cwV 1 hts gL_law_X7_read rfl rfl rfl (by decide +kernel) ⟨Nat.le_of_ble_eq_true rfl, Nat.le_of_ble_eq_true rfl⟩) ⟨fun a U g mk q => by obtain ⟨q0, q1, qP, qK, qD⟩ := q; exact ⟨q0, q1, qP, va_K.moved (u := U) (U := U.calling g mk a) (Vm.Alike.refl U.vm) qK, qD⟩, va_recv hKc hPc (ci := 7) (q0 := 0) rfl rfl, fun U hU hW => ⟨rfl, by rw [hU], by rw [hU]; exact hPc, va_K.moved hW.alike hKc, hDc.weaken (fun _ _ _ _ => trivial)⟩⟩ rfl rfl hl.1 rfl (lv_room (Nat.le_of_ble_eq_true rfl)) dL_law_196 ⟨by show 20 + j + 1 + 0 ≤ 1055; omega, by show 17113 + 6 * j + 6 + 0 ≤ 25371; omega⟩) hS (fun q _ h => hFc q h) hFc (fun r9 u9 t H1 locs ht hvm hw hB hz1 hk1 hS => ?_)
          obtain ⟨hw1, hw2⟩ := hw
          have hw1 := hw1.symm
          have hw2 := hw2.symm
          subst hw1 hw2
          obtain ⟨hP1, hK1, hD1⟩ := hB
          rw [ht] at hP1
          obtain ⟨hP, hD⟩ := jW_M hP hD hk1 hFc hP1 hD1
          clear hPc hDc hKc hFc hz1 hk1 hP1 hK1 hD1 ht hvm
          generalize H1 = H at hP hS ⊢
          refine lv_istore (lv' := [(6, .int (f_X7_read v (xs (i + (1 : Int32)).toNatClampNeg)).1), (5, .int (f_L_read u g (xs (i + (1 : Int32)).toNatClampNeg)).1), (0, .ref b), (1, .ref xO), (2, .ref mO), (3, .ref oL), (4, .int i)]) hx hb dL_law_199 hl (by decide) rfl (fun ls hl => ?_)
          refine lv_aload_n hx hb dL_law_201 rfl (lv_at hl 4 rfl) ?_
          obtain ⟨hPc, hDc, hFc⟩ := xW_M hP hD hS hA
          have hKc := hK.sub (tys' := [(cI, .int)]) [0] rfl
          refine va_calli (va_runV (As := []) (rest := []) ⟨hx, hb, hml, hown, hts⟩ (k_X7_thrown l dC dI cI mO memA dskA rgA inA outA H.size (f_X7_read v (xs (i + (1 : Int32)).toNatClampNeg)).2) (cwV 0 hts gL_law_X7_thrown rfl rfl rfl (by decide +kernel) ⟨Nat.le_of_ble_eq_true rfl, Nat.le_of_ble_eq_true rfl⟩) ⟨fun a U g mk q => by obtain ⟨q0, q1, qP, qK, qD⟩ := q; exact ⟨q0, q1, qP, va_K.moved (u := U) (U := U.calling g mk a) (Vm.Alike.refl U.vm) qK, qD⟩, va_recv hKc hPc (ci := 7) (q0 := 0) rfl rfl, fun U hU hW => ⟨rfl, by rw [hU], by rw [hU]; exact hPc, va_K.moved hW.alike hKc, hDc.weaken (fun _ _ _ _ => trivial)⟩⟩ rfl rfl hl.1 rfl (lv_room (Nat.le_of_ble_eq_true rfl)) dL_law_202 ⟨by show 20 + j + 1 + 0 + 0 ≤ 1055; omega, by show 17113 + 6 * j + 6 + 0 + 0 ≤ 25371; omega⟩) hS (fun q _ h => hFc q h) hFc (fun r9 u9 t H1 locs ht hvm hw hB hz1 hk1 hS => ?_)
          obtain ⟨hw1, hw2⟩ := hw
          have hw1 := hw1.symm
          have hw2 := hw2.symm
          subst hw1 hw2
          obtain ⟨hP1, hK1, hD1⟩ := hB
          rw [ht] at hP1
          obtain ⟨hP, hD⟩ := jW_M0 hP hD hk1 hFc hP1 hD1
          clear hPc hDc hKc hFc hz1 hk1 hP1 hK1 hD1 ht hvm
          generalize H1 = H at hP hS ⊢
          refine lv_iload hx hb dL_law_205 (lv_at hl 1 rfl) ?_
          have hR := R_read (g := g) (a1 := (xs (i + (1 : Int32)).toNatClampNeg)) hj5 hRel
          refine lv_icmp_eq (tgt := 212) hx hb dL_law_207 (by decide) (fun c9 => ?_) (fun c9 => absurd hR.1 c9)
          refine lv_iload hx hb dL_law_212 (lv_at hl 1 rfl) ?_
          refine lv_if_ne (tgt := 229) hx hb dL_law_214 (by decide) (fun c8 => ?_) (fun c8 => ?_)
          · skip
            refine lv_goto (tgt := 760) hx hb dL_law_229 (by decide) ?_
            refine lv_iinc (v := (i + (3 : Int32))) (lv' := [(4, .int (i + (3 : Int32))), (6, .int (f_X7_read v (xs (i + (1 : Int32)).toNatClampNeg)).1), (5, .int (f_L_read u g (xs (i + (1 : Int32)).toNatClampNeg)).1), (0, .ref b), (1, .ref xO), (2, .ref mO), (3, .ref oL)]) hx hb dL_law_760 hl (k := 6) rfl rfl (by decide) rfl (fun ls hl => ?_)
            refine lv_goto (tgt := 23) hx hb dL_law_763 (by decide) ?_
            refine W.widen (k := 20 + (j + 1)) (n := 17113 + 6 * (j + 1)) (by omega) (by omega) ?_
            exact ih (j + 1) (i + (3 : Int32)) (f_L_read u g (xs (i + (1 : Int32)).toNatClampNeg)).2.1 (f_L_read u g (xs (i + (1 : Int32)).toNatClampNeg)).2.2 (f_X7_read v (xs (i + (1 : Int32)).toNatClampNeg)).2 _ _ _ (by omega) (by omega) (by rw [hi]; exact nI_3 j) (hR.2.2) hP hD hS (lv_sub hl [3, 4, 5, 6, 0] rfl)
          · skip
            refine lv_aload_n hx hb dL_law_217 rfl (lv_at hl 5 rfl) ?_
            refine lv_iconst (v := 0) hx hb dL_law_218 (by decide) ?_
            refine va_lald (f := (f_L_read u g (xs (i + (1 : Int32)).toNatClampNeg)).2.2) hx hb hK hP 0 1 rfl rfl (ix_lit (by decide)) dL_law_219 ?_
            refine lv_iload hx hb dL_law_220 (lv_at hl 0 rfl) ?_
            refine lv_i2l (v := ((f_X7_read v (xs (i + (1 : Int32)).toNatClampNeg)).1).toInt64) hx hb dL_law_222 rfl ?_
            refine W.lcmp hx hb dL_law_223 ?_
            refine lv_if_eq (tgt := 229) hx hb dL_law_224 (by decide) (fun c7 => ?_) (fun c7 => absurd (lg_cmp_same (hR.2.1 c8)) c7)
            refine lv_goto (tgt := 760) hx hb dL_law_229 (by decide) ?_
            refine lv_iinc (v := (i + (3 : Int32))) (lv' := [(4, .int (i + (3 : Int32))), (6, .int (f_X7_read v (xs (i + (1 : Int32)).toNatClampNeg)).1), (5, .int (f_L_read u g (xs (i + (1 : Int32)).toNatClampNeg)).1), (0, .ref b), (1, .ref xO), (2, .ref mO), (3, .ref oL)]) hx hb dL_law_760 hl (k := 6) rfl rfl (by decide) rfl (fun ls hl => ?_)
            refine lv_goto (tgt := 23) hx hb dL_law_763 (by decide) ?_
            refine W.widen (k := 20 + (j + 1)) (n := 17113 + 6 * (j + 1)) (by omega) (by omega) ?_
            exact ih (j + 1) (i + (3 : Int32)) (f_L_read u g (xs (i + (1 : Int32)).toNatClampNeg)).2.1 (f_L_read u g (xs (i + (1 : Int32)).toNatClampNeg)).2.2 (f_X7_read v (xs (i + (1 : Int32)).toNatClampNeg)).2 _ _ _ (by omega) (by omega) (by rw [hi]; exact nI_3 j) (hR.2.2) hP hD hS (lv_sub hl [3, 4, 5, 6, 0] rfl)
        · skip
          by_cases q2 : (xs (i).toNatClampNeg &&& (15 : Int32)) = 2
          · refine tb_in (k := 2) (off := 193) (tgt := 232) hx hb dL_law_39 q2 (by decide) (by decide) (by decide) (by decide) ?_
            refine lv_aload_n hx hb dL_law_232 rfl (lv_at hl 1 rfl) ?_
            refine lv_aload_n hx hb dL_law_233 rfl (lv_at hl 0 rfl) ?_
            refine lv_iload hx hb dL_law_234 (lv_at hl 4 rfl) ?_
            refine lv_iconst (v := 1) hx hb dL_law_236 (by decide) ?_
            refine lv_iadd hx hb dL_law_237 ?_
            refine va_sld hx hb hX hbl hbA hS ix1 dL_law_238 ?_
            refine lv_aload_n hx hb dL_law_239 rfl (lv_at hl 0 rfl) ?_
            refine lv_iload hx hb dL_law_240 (lv_at hl 4 rfl) ?_
            refine lv_iconst (v := 2) hx hb dL_law_242 (by decide) ?_
            refine lv_iadd hx hb dL_law_243 ?_
            refine va_sld hx hb hX hbl hbA hS ix2 dL_law_244 ?_
            refine lv_aload_n hx hb dL_law_245 rfl (lv_at hl 3 rfl) ?_
            obtain ⟨hPc, hDc, hFc⟩ := xW_L hP hD hS hA
            have hKc := hK.sub (tys' := [(cI, .int), (cJ, .long)]) [0, 1] rfl
            refine va_calli (vx_runSW (hh := [(0, 10, 13, 13)]) (As := [.ref xO, .int (xs (i + (1 : Int32)).toNatClampNeg), .int (xs (i + (2 : Int32)).toNatClampNeg), .ref oL]) (rest := []) ⟨hx, hb, hml, hown, hts⟩ (k_L_writeDisk l hl0 dC dI cI cJ oL xO pO mS mA dS dA cO iA oA kO fO aO rA H.size u g (xs (i + (1 : Int32)).toNatClampNeg) (xs (i + (2 : Int32)).toNatClampNeg)) (vx_cwSW 4 hts gL_law_L_writeDisk rfl rfl rfl (by decide +kernel) ⟨Nat.le_of_ble_eq_true rfl, Nat.le_of_ble_eq_true rfl⟩) ⟨fun a U g mk q => by obtain ⟨q0, q1, qP, qK, qD, qT⟩ := q; exact ⟨q0, q1, qP, va_K.moved (u := U) (U := U.calling g mk a) (Vm.Alike.refl U.vm) qK, qD, qT.calling g mk a⟩, fun U hU hW => ⟨rfl, by rw [hU], by rw [hU]; exact hPc, va_K.moved hW.alike hKc, hDc.weaken (fun _ _ _ _ => trivial), hT.to hS hFc hU hW⟩⟩ rfl rfl hl.1 rfl (lv_room (Nat.le_of_ble_eq_true rfl)) dL_law_246 ⟨by show 20 + j + 1 ≤ 1055; omega, by show 17113 + 6 * j + 6 ≤ 25371; omega⟩) hS (fun q _ h => hFc q h) hFc (fun r9 x9 t H1 locs ht hvm hw hB hz1 hk1 hS => ?_)
            have hw1 : (f_L_writeDisk u g (xs (i + (1 : Int32)).toNatClampNeg) (xs (i + (2 : Int32)).toNatClampNeg)).1 = r9 := (congrArg Prod.fst hw).symm
            have hw2 : (f_L_writeDisk u g (xs (i + (1 : Int32)).toNatClampNeg) (xs (i + (2 : Int32)).toNatClampNeg)).2 = x9 := (congrArg Prod.snd hw).symm
            subst hw1 hw2
            clear hw
            obtain ⟨hP1, hK1, hD1⟩ := hB
            rw [ht] at hP1
            obtain ⟨hP, hD⟩ := jW_L hP hD hk1 hFc hP1 hD1
            clear hPc hDc hKc hFc hz1 hk1 hP1 hK1 hD1 ht hvm
            generalize H1 = H at hP hS ⊢
            refine lv_istore (lv' := [(5, .int (f_L_writeDisk u g (xs (i + (1 : Int32)).toNatClampNeg) (xs (i + (2 : Int32)).toNatClampNeg)).1), (0, .ref b), (1, .ref xO), (2, .ref mO), (3, .ref oL), (4, .int i)]) hx hb dL_law_249 hl (by decide) rfl (fun ls hl => ?_)
            refine lv_aload_n hx hb dL_law_251 rfl (lv_at hl 3 rfl) ?_
            refine lv_aload_n hx hb dL_law_252 rfl (lv_at hl 1 rfl) ?_
            refine lv_iload hx hb dL_law_253 (lv_at hl 5 rfl) ?_
            refine lv_iconst (v := 1) hx hb dL_law_255 (by decide) ?_
            refine lv_iadd hx hb dL_law_256 ?_
            refine va_sld hx hb hX hbl hbA hS ix1 dL_law_257 ?_
            refine lv_aload_n hx hb dL_law_258 rfl (lv_at hl 1 rfl) ?_
            refine lv_iload hx hb dL_law_259 (lv_at hl 5 rfl) ?_
            refine lv_iconst (v := 2) hx hb dL_law_261 (by decide) ?_
            refine lv_iadd hx hb dL_law_262 ?_
            refine va_sld hx hb hX hbl hbA hS ix2 dL_law_263 ?_
            obtain ⟨hPc, hDc, hFc⟩ := xW_M hP hD hS hA
            have hKc := hK.sub (tys' := [(cI, .int)]) [0] rfl
            refine va_calli (va_runV (As := [.int (xs (i + (1 : Int32)).toNatClampNeg), .int (xs (i + (2 : Int32)).toNatClampNeg)]) (rest := []) ⟨hx, hb, hml, hown, hts⟩ (k_X7_writeDisk l dC dI cI mO memA dskA rgA inA outA H.size v (xs (i + (1 : Int32)).toNatClampNeg) (xs (i + (2 : Int32)).toNatClampNeg)) (cwV 2 hts gL_law_X7_writeDisk rfl rfl rfl (by decide +kernel) ⟨Nat.le_of_ble_eq_true rfl, Nat.le_of_ble_eq_true rfl⟩) ⟨fun a U g mk q => by obtain ⟨q0, q1, qP, qK, qD⟩ := q; exact ⟨q0, q1, qP, va_K.moved (u := U) (U := U.calling g mk a) (Vm.Alike.refl U.vm) qK, qD⟩, va_recv hKc hPc (ci := 7) (q0 := 0) rfl rfl, fun U hU hW => ⟨rfl, by rw [hU], by rw [hU]; exact hPc, va_K.moved hW.alike hKc, hDc.weaken (fun _ _ _ _ => trivial)⟩⟩ rfl rfl hl.1 rfl (lv_room (Nat.le_of_ble_eq_true rfl)) dL_law_264 ⟨by show 20 + j + 1 + 0 ≤ 1055; omega, by show 17113 + 6 * j + 6 + 0 ≤ 25371; omega⟩) hS (fun q _ h => hFc q h) hFc (fun r9 u9 t H1 locs ht hvm hw hB hz1 hk1 hS => ?_)
            obtain ⟨hw1, hw2⟩ := hw
            have hw1 := hw1.symm
            have hw2 := hw2.symm
            subst hw1 hw2
            obtain ⟨hP1, hK1, hD1⟩ := hB
            rw [ht] at hP1
            obtain ⟨hP, hD⟩ := jW_M hP hD hk1 hFc hP1 hD1
            clear hPc hDc hKc hFc hz1 hk1 hP1 hK1 hD1 ht hvm
            generalize H1 = H at hP hS ⊢
            refine lv_istore (lv' := [(6, .int (f_X7_writeDisk v (xs (i + (1 : Int32)).toNatClampNeg) (xs (i + (2 : Int32)).toNatClampNeg)).1), (5, .int (f_L_writeDisk u g (xs (i + (1 : Int32)).toNatClampNeg) (xs (i + (2 : Int32)).toNatClampNeg)).1), (0, .ref b), (1, .ref xO), (2, .ref mO), (3, .ref oL), (4, .int i)]) hx hb dL_law_267 hl (by decide) rfl (fun ls hl => ?_)
            refine lv_aload_n hx hb dL_law_269 rfl (lv_at hl 4 rfl) ?_
            obtain ⟨hPc, hDc, hFc⟩ := xW_M hP hD hS hA
            have hKc := hK.sub (tys' := [(cI, .int)]) [0] rfl
            refine va_calli (va_runV (As := []) (rest := []) ⟨hx, hb, hml, hown, hts⟩ (k_X7_thrown l dC dI cI mO memA dskA rgA inA outA H.size (f_X7_writeDisk v (xs (i + (1 : Int32)).toNatClampNeg) (xs (i + (2 : Int32)).toNatClampNeg)).2) (cwV 0 hts gL_law_X7_thrown rfl rfl rfl (by decide +kernel) ⟨Nat.le_of_ble_eq_true rfl, Nat.le_of_ble_eq_true rfl⟩) ⟨fun a U g mk q => by obtain ⟨q0, q1, qP, qK, qD⟩ := q; exact ⟨q0, q1, qP, va_K.moved (u := U) (U := U.calling g mk a) (Vm.Alike.refl U.vm) qK, qD⟩, va_recv hKc hPc (ci := 7) (q0 := 0) rfl rfl, fun U hU hW => ⟨rfl, by rw [hU], by rw [hU]; exact hPc, va_K.moved hW.alike hKc, hDc.weaken (fun _ _ _ _ => trivial)⟩⟩ rfl rfl hl.1 rfl (lv_room (Nat.le_of_ble_eq_true rfl)) dL_law_270 ⟨by show 20 + j + 1 + 0 + 0 ≤ 1055; omega, by show 17113 + 6 * j + 6 + 0 + 0 ≤ 25371; omega⟩) hS (fun q _ h => hFc q h) hFc (fun r9 u9 t H1 locs ht hvm hw hB hz1 hk1 hS => ?_)
            obtain ⟨hw1, hw2⟩ := hw
            have hw1 := hw1.symm
            have hw2 := hw2.symm
            subst hw1 hw2
            obtain ⟨hP1, hK1, hD1⟩ := hB
            rw [ht] at hP1
            obtain ⟨hP, hD⟩ := jW_M0 hP hD hk1 hFc hP1 hD1
            clear hPc hDc hKc hFc hz1 hk1 hP1 hK1 hD1 ht hvm
            generalize H1 = H at hP hS ⊢
            refine lv_iload hx hb dL_law_273 (lv_at hl 1 rfl) ?_
            have hR := R_writeDisk (g := g) (a1 := (xs (i + (1 : Int32)).toNatClampNeg)) (a2 := (xs (i + (2 : Int32)).toNatClampNeg)) hj5 hRel
            refine lv_icmp_eq (tgt := 280) hx hb dL_law_275 (by decide) (fun c9 => ?_) (fun c9 => absurd hR.1 c9)
            refine lv_iload hx hb dL_law_280 (lv_at hl 1 rfl) ?_
            refine lv_if_ne (tgt := 297) hx hb dL_law_282 (by decide) (fun c8 => ?_) (fun c8 => ?_)
            · skip
              refine lv_goto (tgt := 760) hx hb dL_law_297 (by decide) ?_
              refine lv_iinc (v := (i + (3 : Int32))) (lv' := [(4, .int (i + (3 : Int32))), (6, .int (f_X7_writeDisk v (xs (i + (1 : Int32)).toNatClampNeg) (xs (i + (2 : Int32)).toNatClampNeg)).1), (5, .int (f_L_writeDisk u g (xs (i + (1 : Int32)).toNatClampNeg) (xs (i + (2 : Int32)).toNatClampNeg)).1), (0, .ref b), (1, .ref xO), (2, .ref mO), (3, .ref oL)]) hx hb dL_law_760 hl (k := 6) rfl rfl (by decide) rfl (fun ls hl => ?_)
              refine lv_goto (tgt := 23) hx hb dL_law_763 (by decide) ?_
              refine W.widen (k := 20 + (j + 1)) (n := 17113 + 6 * (j + 1)) (by omega) (by omega) ?_
              exact ih (j + 1) (i + (3 : Int32)) (f_L_writeDisk u g (xs (i + (1 : Int32)).toNatClampNeg) (xs (i + (2 : Int32)).toNatClampNeg)).2.1 (f_L_writeDisk u g (xs (i + (1 : Int32)).toNatClampNeg) (xs (i + (2 : Int32)).toNatClampNeg)).2.2 (f_X7_writeDisk v (xs (i + (1 : Int32)).toNatClampNeg) (xs (i + (2 : Int32)).toNatClampNeg)).2 _ _ _ (by omega) (by omega) (by rw [hi]; exact nI_3 j) (hR.2.2) hP hD hS (lv_sub hl [3, 4, 5, 6, 0] rfl)
            · skip
              refine lv_aload_n hx hb dL_law_285 rfl (lv_at hl 5 rfl) ?_
              refine lv_iconst (v := 0) hx hb dL_law_286 (by decide) ?_
              refine va_lald (f := (f_L_writeDisk u g (xs (i + (1 : Int32)).toNatClampNeg) (xs (i + (2 : Int32)).toNatClampNeg)).2.2) hx hb hK hP 0 1 rfl rfl (ix_lit (by decide)) dL_law_287 ?_
              refine lv_iload hx hb dL_law_288 (lv_at hl 0 rfl) ?_
              refine lv_i2l (v := ((f_X7_writeDisk v (xs (i + (1 : Int32)).toNatClampNeg) (xs (i + (2 : Int32)).toNatClampNeg)).1).toInt64) hx hb dL_law_290 rfl ?_
              refine W.lcmp hx hb dL_law_291 ?_
              refine lv_if_eq (tgt := 297) hx hb dL_law_292 (by decide) (fun c7 => ?_) (fun c7 => absurd (lg_cmp_same (hR.2.1 c8)) c7)
              refine lv_goto (tgt := 760) hx hb dL_law_297 (by decide) ?_
              refine lv_iinc (v := (i + (3 : Int32))) (lv' := [(4, .int (i + (3 : Int32))), (6, .int (f_X7_writeDisk v (xs (i + (1 : Int32)).toNatClampNeg) (xs (i + (2 : Int32)).toNatClampNeg)).1), (5, .int (f_L_writeDisk u g (xs (i + (1 : Int32)).toNatClampNeg) (xs (i + (2 : Int32)).toNatClampNeg)).1), (0, .ref b), (1, .ref xO), (2, .ref mO), (3, .ref oL)]) hx hb dL_law_760 hl (k := 6) rfl rfl (by decide) rfl (fun ls hl => ?_)
              refine lv_goto (tgt := 23) hx hb dL_law_763 (by decide) ?_
              refine W.widen (k := 20 + (j + 1)) (n := 17113 + 6 * (j + 1)) (by omega) (by omega) ?_
              exact ih (j + 1) (i + (3 : Int32)) (f_L_writeDisk u g (xs (i + (1 : Int32)).toNatClampNeg) (xs (i + (2 : Int32)).toNatClampNeg)).2.1 (f_L_writeDisk u g (xs (i + (1 : Int32)).toNatClampNeg) (xs (i + (2 : Int32)).toNatClampNeg)).2.2 (f_X7_writeDisk v (xs (i + (1 : Int32)).toNatClampNeg) (xs (i + (2 : Int32)).toNatClampNeg)).2 _ _ _ (by omega) (by omega) (by rw [hi]; exact nI_3 j) (hR.2.2) hP hD hS (lv_sub hl [3, 4, 5, 6, 0] rfl)
          · skip
            by_cases q3 : (xs (i).toNatClampNeg &&& (15 : Int32)) = 3
            · refine tb_in (k := 3) (off := 261) (tgt := 300) hx hb dL_law_39 q3 (by decide) (by decide) (by decide) (by decide) ?_
              refine lv_aload_n hx hb dL_law_300 rfl (lv_at hl 1 rfl) ?_
              refine lv_aload_n hx hb dL_law_301 rfl (lv_at hl 0 rfl) ?_
              refine lv_iload hx hb dL_law_302 (lv_at hl 4 rfl) ?_
              refine lv_iconst (v := 1) hx hb dL_law_304 (by decide) ?_
              refine lv_iadd hx hb dL_law_305 ?_
              refine va_sld hx hb hX hbl hbA hS ix1 dL_law_306 ?_
              refine lv_aload_n hx hb dL_law_307 rfl (lv_at hl 3 rfl) ?_
              obtain ⟨hPc, hDc, hFc⟩ := xW_L hP hD hS hA
              have hKc := hK.sub (tys' := [(cI, .int), (cJ, .long)]) [0, 1] rfl
              refine va_calli (vx_runSW (hh := [(0, 9, 12, 13)]) (As := [.ref xO, .int (xs (i + (1 : Int32)).toNatClampNeg), .ref oL]) (rest := []) ⟨hx, hb, hml, hown, hts⟩ (k_L_readDisk l hl0 dC dI cI cJ oL xO pO mS mA dS dA cO iA oA kO fO aO rA H.size u g (xs (i + (1 : Int32)).toNatClampNeg)) (vx_cwSW 3 hts gL_law_L_readDisk rfl rfl rfl (by decide +kernel) ⟨Nat.le_of_ble_eq_true rfl, Nat.le_of_ble_eq_true rfl⟩) ⟨fun a U g mk q => by obtain ⟨q0, q1, qP, qK, qD, qT⟩ := q; exact ⟨q0, q1, qP, va_K.moved (u := U) (U := U.calling g mk a) (Vm.Alike.refl U.vm) qK, qD, qT.calling g mk a⟩, fun U hU hW => ⟨rfl, by rw [hU], by rw [hU]; exact hPc, va_K.moved hW.alike hKc, hDc.weaken (fun _ _ _ _ => trivial), hT.to hS hFc hU hW⟩⟩ rfl rfl hl.1 rfl (lv_room (Nat.le_of_ble_eq_true rfl)) dL_law_308 ⟨by show 20 + j + 1 ≤ 1055; omega, by show 17113 + 6 * j + 6 ≤ 25371; omega⟩) hS (fun q _ h => hFc q h) hFc (fun r9 x9 t H1 locs ht hvm hw hB hz1 hk1 hS => ?_)
              have hw1 : (f_L_readDisk u g (xs (i + (1 : Int32)).toNatClampNeg)).1 = r9 := (congrArg Prod.fst hw).symm
              have hw2 : (f_L_readDisk u g (xs (i + (1 : Int32)).toNatClampNeg)).2 = x9 := (congrArg Prod.snd hw).symm
              subst hw1 hw2
              clear hw
              obtain ⟨hP1, hK1, hD1⟩ := hB
              rw [ht] at hP1
              obtain ⟨hP, hD⟩ := jW_L hP hD hk1 hFc hP1 hD1
              clear hPc hDc hKc hFc hz1 hk1 hP1 hK1 hD1 ht hvm
              generalize H1 = H at hP hS ⊢
              refine lv_istore (lv' := [(5, .int (f_L_readDisk u g (xs (i + (1 : Int32)).toNatClampNeg)).1), (0, .ref b), (1, .ref xO), (2, .ref mO), (3, .ref oL), (4, .int i)]) hx hb dL_law_311 hl (by decide) rfl (fun ls hl => ?_)
              refine lv_aload_n hx hb dL_law_313 rfl (lv_at hl 3 rfl) ?_
              refine lv_aload_n hx hb dL_law_314 rfl (lv_at hl 1 rfl) ?_
              refine lv_iload hx hb dL_law_315 (lv_at hl 5 rfl) ?_
              refine lv_iconst (v := 1) hx hb dL_law_317 (by decide) ?_
              refine lv_iadd hx hb dL_law_318 ?_
              refine va_sld hx hb hX hbl hbA hS ix1 dL_law_319 ?_
              obtain ⟨hPc, hDc, hFc⟩ := xW_M hP hD hS hA
              have hKc := hK.sub (tys' := [(cI, .int)]) [0] rfl
              refine va_calli (va_runV (As := [.int (xs (i + (1 : Int32)).toNatClampNeg)]) (rest := []) ⟨hx, hb, hml, hown, hts⟩ (k_X7_readDisk l dC dI cI mO memA dskA rgA inA outA H.size v (xs (i + (1 : Int32)).toNatClampNeg)) (cwV 1 hts gL_law_X7_readDisk rfl rfl rfl (by decide +kernel) ⟨Nat.le_of_ble_eq_true rfl, Nat.le_of_ble_eq_true rfl⟩) ⟨fun a U g mk q => by obtain ⟨q0, q1, qP, qK, qD⟩ := q; exact ⟨q0, q1, qP, va_K.moved (u := U) (U := U.calling g mk a) (Vm.Alike.refl U.vm) qK, qD⟩, va_recv hKc hPc (ci := 7) (q0 := 0) rfl rfl, fun U hU hW => ⟨rfl, by rw [hU], by rw [hU]; exact hPc, va_K.moved hW.alike hKc, hDc.weaken (fun _ _ _ _ => trivial)⟩⟩ rfl rfl hl.1 rfl (lv_room (Nat.le_of_ble_eq_true rfl)) dL_law_320 ⟨by show 20 + j + 1 + 0 ≤ 1055; omega, by show 17113 + 6 * j + 6 + 0 ≤ 25371; omega⟩) hS (fun q _ h => hFc q h) hFc (fun r9 u9 t H1 locs ht hvm hw hB hz1 hk1 hS => ?_)
              obtain ⟨hw1, hw2⟩ := hw
              have hw1 := hw1.symm
              have hw2 := hw2.symm
              subst hw1 hw2
              obtain ⟨hP1, hK1, hD1⟩ := hB
              rw [ht] at hP1
              obtain ⟨hP, hD⟩ := jW_M hP hD hk1 hFc hP1 hD1
              clear hPc hDc hKc hFc hz1 hk1 hP1 hK1 hD1 ht hvm
              generalize H1 = H at hP hS ⊢
              refine lv_istore (lv' := [(6, .int (f_X7_readDisk v (xs (i + (1 : Int32)).toNatClampNeg)).1), (5, .int (f_L_readDisk u g (xs (i + (1 : Int32)).toNatClampNeg)).1), (0, .ref b), (1, .ref xO), (2, .ref mO), (3, .ref oL), (4, .int i)]) hx hb dL_law_323 hl (by decide) rfl (fun ls hl => ?_)
              refine lv_aload_n hx hb dL_law_325 rfl (lv_at hl 4 rfl) ?_
              obtain ⟨hPc, hDc, hFc⟩ := xW_M hP hD hS hA
              have hKc := hK.sub (tys' := [(cI, .int)]) [0] rfl
              refine va_calli (va_runV (As := []) (rest := []) ⟨hx, hb, hml, hown, hts⟩ (k_X7_thrown l dC dI cI mO memA dskA rgA inA outA H.size (f_X7_readDisk v (xs (i + (1 : Int32)).toNatClampNeg)).2) (cwV 0 hts gL_law_X7_thrown rfl rfl rfl (by decide +kernel) ⟨Nat.le_of_ble_eq_true rfl, Nat.le_of_ble_eq_true rfl⟩) ⟨fun a U g mk q => by obtain ⟨q0, q1, qP, qK, qD⟩ := q; exact ⟨q0, q1, qP, va_K.moved (u := U) (U := U.calling g mk a) (Vm.Alike.refl U.vm) qK, qD⟩, va_recv hKc hPc (ci := 7) (q0 := 0) rfl rfl, fun U hU hW => ⟨rfl, by rw [hU], by rw [hU]; exact hPc, va_K.moved hW.alike hKc, hDc.weaken (fun _ _ _ _ => trivial)⟩⟩ rfl rfl hl.1 rfl (lv_room (Nat.le_of_ble_eq_true rfl)) dL_law_326 ⟨by show 20 + j + 1 + 0 + 0 ≤ 1055; omega, by show 17113 + 6 * j + 6 + 0 + 0 ≤ 25371; omega⟩) hS (fun q _ h => hFc q h) hFc (fun r9 u9 t H1 locs ht hvm hw hB hz1 hk1 hS => ?_)
              obtain ⟨hw1, hw2⟩ := hw
              have hw1 := hw1.symm
              have hw2 := hw2.symm
              subst hw1 hw2
              obtain ⟨hP1, hK1, hD1⟩ := hB
              rw [ht] at hP1
              obtain ⟨hP, hD⟩ := jW_M0 hP hD hk1 hFc hP1 hD1
              clear hPc hDc hKc hFc hz1 hk1 hP1 hK1 hD1 ht hvm
              generalize H1 = H at hP hS ⊢
              refine lv_iload hx hb dL_law_329 (lv_at hl 1 rfl) ?_
              have hR := R_readDisk (g := g) (a1 := (xs (i + (1 : Int32)).toNatClampNeg)) hj5 hRel
              refine lv_icmp_eq (tgt := 336) hx hb dL_law_331 (by decide) (fun c9 => ?_) (fun c9 => absurd hR.1 c9)
              refine lv_iload hx hb dL_law_336 (lv_at hl 1 rfl) ?_
              refine lv_if_ne (tgt := 353) hx hb dL_law_338 (by decide) (fun c8 => ?_) (fun c8 => ?_)
              · skip
                refine lv_goto (tgt := 760) hx hb dL_law_353 (by decide) ?_
                refine lv_iinc (v := (i + (3 : Int32))) (lv' := [(4, .int (i + (3 : Int32))), (6, .int (f_X7_readDisk v (xs (i + (1 : Int32)).toNatClampNeg)).1), (5, .int (f_L_readDisk u g (xs (i + (1 : Int32)).toNatClampNeg)).1), (0, .ref b), (1, .ref xO), (2, .ref mO), (3, .ref oL)]) hx hb dL_law_760 hl (k := 6) rfl rfl (by decide) rfl (fun ls hl => ?_)
                refine lv_goto (tgt := 23) hx hb dL_law_763 (by decide) ?_
                refine W.widen (k := 20 + (j + 1)) (n := 17113 + 6 * (j + 1)) (by omega) (by omega) ?_
                exact ih (j + 1) (i + (3 : Int32)) (f_L_readDisk u g (xs (i + (1 : Int32)).toNatClampNeg)).2.1 (f_L_readDisk u g (xs (i + (1 : Int32)).toNatClampNeg)).2.2 (f_X7_readDisk v (xs (i + (1 : Int32)).toNatClampNeg)).2 _ _ _ (by omega) (by omega) (by rw [hi]; exact nI_3 j) (hR.2.2) hP hD hS (lv_sub hl [3, 4, 5, 6, 0] rfl)
              · skip
                refine lv_aload_n hx hb dL_law_341 rfl (lv_at hl 5 rfl) ?_
                refine lv_iconst (v := 0) hx hb dL_law_342 (by decide) ?_
                refine va_lald (f := (f_L_readDisk u g (xs (i + (1 : Int32)).toNatClampNeg)).2.2) hx hb hK hP 0 1 rfl rfl (ix_lit (by decide)) dL_law_343 ?_
                refine lv_iload hx hb dL_law_344 (lv_at hl 0 rfl) ?_
                refine lv_i2l (v := ((f_X7_readDisk v (xs (i + (1 : Int32)).toNatClampNeg)).1).toInt64) hx hb dL_law_346 rfl ?_
                refine W.lcmp hx hb dL_law_347 ?_
                refine lv_if_eq (tgt := 353) hx hb dL_law_348 (by decide) (fun c7 => ?_) (fun c7 => absurd (lg_cmp_same (hR.2.1 c8)) c7)
                refine lv_goto (tgt := 760) hx hb dL_law_353 (by decide) ?_
                refine lv_iinc (v := (i + (3 : Int32))) (lv' := [(4, .int (i + (3 : Int32))), (6, .int (f_X7_readDisk v (xs (i + (1 : Int32)).toNatClampNeg)).1), (5, .int (f_L_readDisk u g (xs (i + (1 : Int32)).toNatClampNeg)).1), (0, .ref b), (1, .ref xO), (2, .ref mO), (3, .ref oL)]) hx hb dL_law_760 hl (k := 6) rfl rfl (by decide) rfl (fun ls hl => ?_)
                refine lv_goto (tgt := 23) hx hb dL_law_763 (by decide) ?_
                refine W.widen (k := 20 + (j + 1)) (n := 17113 + 6 * (j + 1)) (by omega) (by omega) ?_
                exact ih (j + 1) (i + (3 : Int32)) (f_L_readDisk u g (xs (i + (1 : Int32)).toNatClampNeg)).2.1 (f_L_readDisk u g (xs (i + (1 : Int32)).toNatClampNeg)).2.2 (f_X7_readDisk v (xs (i + (1 : Int32)).toNatClampNeg)).2 _ _ _ (by omega) (by omega) (by rw [hi]; exact nI_3 j) (hR.2.2) hP hD hS (lv_sub hl [3, 4, 5, 6, 0] rfl)
            · skip
              by_cases q4 : (xs (i).toNatClampNeg &&& (15 : Int32)) = 4
              · refine tb_in (k := 4) (off := 317) (tgt := 356) hx hb dL_law_39 q4 (by decide) (by decide) (by decide) (by decide) ?_
                refine lv_aload_n hx hb dL_law_356 rfl (lv_at hl 1 rfl) ?_
                refine lv_aload_n hx hb dL_law_357 rfl (lv_at hl 0 rfl) ?_
                refine lv_iload hx hb dL_law_358 (lv_at hl 4 rfl) ?_
                refine lv_iconst (v := 1) hx hb dL_law_360 (by decide) ?_
                refine lv_iadd hx hb dL_law_361 ?_
                refine va_sld hx hb hX hbl hbA hS ix1 dL_law_362 ?_
                refine lv_aload_n hx hb dL_law_363 rfl (lv_at hl 3 rfl) ?_
                obtain ⟨hPc, hDc, hFc⟩ := xW_L hP hD hS hA
                have hKc := hK.sub (tys' := [(cI, .int), (cJ, .long)]) [0, 1] rfl
                refine va_calli (vx_runSW (hh := [(0, 9, 12, 28)]) (As := [.ref xO, .int (xs (i + (1 : Int32)).toNatClampNeg), .ref oL]) (rest := []) ⟨hx, hb, hml, hown, hts⟩ (k_L_register l hl0 dC dI cI cJ oL xO pO mS mA dS dA cO iA oA kO fO aO rA H.size u g (xs (i + (1 : Int32)).toNatClampNeg)) (vx_cwSW 3 hts gL_law_L_register rfl rfl rfl (by decide +kernel) ⟨Nat.le_of_ble_eq_true rfl, Nat.le_of_ble_eq_true rfl⟩) ⟨fun a U g mk q => by obtain ⟨q0, q1, qP, qK, qD, qT⟩ := q; exact ⟨q0, q1, qP, va_K.moved (u := U) (U := U.calling g mk a) (Vm.Alike.refl U.vm) qK, qD, qT.calling g mk a⟩, fun U hU hW => ⟨rfl, by rw [hU], by rw [hU]; exact hPc, va_K.moved hW.alike hKc, hDc.weaken (fun _ _ _ _ => trivial), hT.to hS hFc hU hW⟩⟩ rfl rfl hl.1 rfl (lv_room (Nat.le_of_ble_eq_true rfl)) dL_law_364 ⟨by show 20 + j + 1 ≤ 1055; omega, by show 17113 + 6 * j + 6 ≤ 25371; omega⟩) hS (fun q _ h => hFc q h) hFc (fun r9 x9 t H1 locs ht hvm hw hB hz1 hk1 hS => ?_)
                have hw1 : (f_L_register u g (xs (i + (1 : Int32)).toNatClampNeg)).1 = r9 := (congrArg Prod.fst hw).symm
                have hw2 : (f_L_register u g (xs (i + (1 : Int32)).toNatClampNeg)).2 = x9 := (congrArg Prod.snd hw).symm
                subst hw1 hw2
                clear hw
                obtain ⟨hP1, hK1, hD1⟩ := hB
                rw [ht] at hP1
                obtain ⟨hP, hD⟩ := jW_L hP hD hk1 hFc hP1 hD1
                clear hPc hDc hKc hFc hz1 hk1 hP1 hK1 hD1 ht hvm
                generalize H1 = H at hP hS ⊢
                refine lv_istore (lv' := [(5, .int (f_L_register u g (xs (i + (1 : Int32)).toNatClampNeg)).1), (0, .ref b), (1, .ref xO), (2, .ref mO), (3, .ref oL), (4, .int i)]) hx hb dL_law_367 hl (by decide) rfl (fun ls hl => ?_)
                refine lv_aload_n hx hb dL_law_369 rfl (lv_at hl 3 rfl) ?_
                refine lv_aload_n hx hb dL_law_370 rfl (lv_at hl 1 rfl) ?_
                refine lv_iload hx hb dL_law_371 (lv_at hl 5 rfl) ?_
                refine lv_iconst (v := 1) hx hb dL_law_373 (by decide) ?_
                refine lv_iadd hx hb dL_law_374 ?_
                refine va_sld hx hb hX hbl hbA hS ix1 dL_law_375 ?_
                obtain ⟨hPc, hDc, hFc⟩ := xW_M hP hD hS hA
                have hKc := hK.sub (tys' := [(cI, .int)]) [0] rfl
                refine va_calli (va_runV (As := [.int (xs (i + (1 : Int32)).toNatClampNeg)]) (rest := []) ⟨hx, hb, hml, hown, hts⟩ (k_X7_register l dC dI cI mO memA dskA rgA inA outA H.size v (xs (i + (1 : Int32)).toNatClampNeg)) (cwV 1 hts gL_law_X7_register rfl rfl rfl (by decide +kernel) ⟨Nat.le_of_ble_eq_true rfl, Nat.le_of_ble_eq_true rfl⟩) ⟨fun a U g mk q => by obtain ⟨q0, q1, qP, qK, qD⟩ := q; exact ⟨q0, q1, qP, va_K.moved (u := U) (U := U.calling g mk a) (Vm.Alike.refl U.vm) qK, qD⟩, va_recv hKc hPc (ci := 7) (q0 := 0) rfl rfl, fun U hU hW => ⟨rfl, by rw [hU], by rw [hU]; exact hPc, va_K.moved hW.alike hKc, hDc.weaken (fun _ _ _ _ => trivial)⟩⟩ rfl rfl hl.1 rfl (lv_room (Nat.le_of_ble_eq_true rfl)) dL_law_376 ⟨by show 20 + j + 1 + 0 ≤ 1055; omega, by show 17113 + 6 * j + 6 + 0 ≤ 25371; omega⟩) hS (fun q _ h => hFc q h) hFc (fun r9 u9 t H1 locs ht hvm hw hB hz1 hk1 hS => ?_)
                obtain ⟨hw1, hw2⟩ := hw
                have hw1 := hw1.symm
                have hw2 := hw2.symm
                subst hw1 hw2
                obtain ⟨hP1, hK1, hD1⟩ := hB
                rw [ht] at hP1
                obtain ⟨hP, hD⟩ := jW_M hP hD hk1 hFc hP1 hD1
                clear hPc hDc hKc hFc hz1 hk1 hP1 hK1 hD1 ht hvm
                generalize H1 = H at hP hS ⊢
                refine lv_istore (lv' := [(6, .int (f_X7_register v (xs (i + (1 : Int32)).toNatClampNeg)).1), (5, .int (f_L_register u g (xs (i + (1 : Int32)).toNatClampNeg)).1), (0, .ref b), (1, .ref xO), (2, .ref mO), (3, .ref oL), (4, .int i)]) hx hb dL_law_379 hl (by decide) rfl (fun ls hl => ?_)
                refine lv_aload_n hx hb dL_law_381 rfl (lv_at hl 4 rfl) ?_
                obtain ⟨hPc, hDc, hFc⟩ := xW_M hP hD hS hA
                have hKc := hK.sub (tys' := [(cI, .int)]) [0] rfl
                refine va_calli (va_runV (As := []) (rest := []) ⟨hx, hb, hml, hown, hts⟩ (k_X7_thrown l dC dI cI mO memA dskA rgA inA outA H.size (f_X7_register v (xs (i + (1 : Int32)).toNatClampNeg)).2) (cwV 0 hts gL_law_X7_thrown rfl rfl rfl (by decide +kernel) ⟨Nat.le_of_ble_eq_true rfl, Nat.le_of_ble_eq_true rfl⟩) ⟨fun a U g mk q => by obtain ⟨q0, q1, qP, qK, qD⟩ := q; exact ⟨q0, q1, qP, va_K.moved (u := U) (U := U.calling g mk a) (Vm.Alike.refl U.vm) qK, qD⟩, va_recv hKc hPc (ci := 7) (q0 := 0) rfl rfl, fun U hU hW => ⟨rfl, by rw [hU], by rw [hU]; exact hPc, va_K.moved hW.alike hKc, hDc.weaken (fun _ _ _ _ => trivial)⟩⟩ rfl rfl hl.1 rfl (lv_room (Nat.le_of_ble_eq_true rfl)) dL_law_382 ⟨by show 20 + j + 1 + 0 + 0 ≤ 1055; omega, by show 17113 + 6 * j + 6 + 0 + 0 ≤ 25371; omega⟩) hS (fun q _ h => hFc q h) hFc (fun r9 u9 t H1 locs ht hvm hw hB hz1 hk1 hS => ?_)
                obtain ⟨hw1, hw2⟩ := hw
                have hw1 := hw1.symm
                have hw2 := hw2.symm
                subst hw1 hw2
                obtain ⟨hP1, hK1, hD1⟩ := hB
                rw [ht] at hP1
                obtain ⟨hP, hD⟩ := jW_M0 hP hD hk1 hFc hP1 hD1
                clear hPc hDc hKc hFc hz1 hk1 hP1 hK1 hD1 ht hvm
                generalize H1 = H at hP hS ⊢
                refine lv_iload hx hb dL_law_385 (lv_at hl 1 rfl) ?_
                have hR := R_register (g := g) (a1 := (xs (i + (1 : Int32)).toNatClampNeg)) hj5 hRel
                refine lv_icmp_eq (tgt := 392) hx hb dL_law_387 (by decide) (fun c9 => ?_) (fun c9 => absurd hR.1 c9)
                refine lv_iload hx hb dL_law_392 (lv_at hl 1 rfl) ?_
                refine lv_if_ne (tgt := 409) hx hb dL_law_394 (by decide) (fun c8 => ?_) (fun c8 => ?_)
                · skip
                  refine lv_goto (tgt := 760) hx hb dL_law_409 (by decide) ?_
                  refine lv_iinc (v := (i + (3 : Int32))) (lv' := [(4, .int (i + (3 : Int32))), (6, .int (f_X7_register v (xs (i + (1 : Int32)).toNatClampNeg)).1), (5, .int (f_L_register u g (xs (i + (1 : Int32)).toNatClampNeg)).1), (0, .ref b), (1, .ref xO), (2, .ref mO), (3, .ref oL)]) hx hb dL_law_760 hl (k := 6) rfl rfl (by decide) rfl (fun ls hl => ?_)
                  refine lv_goto (tgt := 23) hx hb dL_law_763 (by decide) ?_
                  refine W.widen (k := 20 + (j + 1)) (n := 17113 + 6 * (j + 1)) (by omega) (by omega) ?_
                  exact ih (j + 1) (i + (3 : Int32)) (f_L_register u g (xs (i + (1 : Int32)).toNatClampNeg)).2.1 (f_L_register u g (xs (i + (1 : Int32)).toNatClampNeg)).2.2 (f_X7_register v (xs (i + (1 : Int32)).toNatClampNeg)).2 _ _ _ (by omega) (by omega) (by rw [hi]; exact nI_3 j) (hR.2.2) hP hD hS (lv_sub hl [3, 4, 5, 6, 0] rfl)
                · skip
                  refine lv_aload_n hx hb dL_law_397 rfl (lv_at hl 5 rfl) ?_
                  refine lv_iconst (v := 0) hx hb dL_law_398 (by decide) ?_
                  refine va_lald (f := (f_L_register u g (xs (i + (1 : Int32)).toNatClampNeg)).2.2) hx hb hK hP 0 1 rfl rfl (ix_lit (by decide)) dL_law_399 ?_
                  refine lv_iload hx hb dL_law_400 (lv_at hl 0 rfl) ?_
                  refine lv_i2l (v := ((f_X7_register v (xs (i + (1 : Int32)).toNatClampNeg)).1).toInt64) hx hb dL_law_402 rfl ?_
                  refine W.lcmp hx hb dL_law_403 ?_
                  refine lv_if_eq (tgt := 409) hx hb dL_law_404 (by decide) (fun c7 => ?_) (fun c7 => absurd (lg_cmp_same (hR.2.1 c8)) c7)
                  refine lv_goto (tgt := 760) hx hb dL_law_409 (by decide) ?_
                  refine lv_iinc (v := (i + (3 : Int32))) (lv' := [(4, .int (i + (3 : Int32))), (6, .int (f_X7_register v (xs (i + (1 : Int32)).toNatClampNeg)).1), (5, .int (f_L_register u g (xs (i + (1 : Int32)).toNatClampNeg)).1), (0, .ref b), (1, .ref xO), (2, .ref mO), (3, .ref oL)]) hx hb dL_law_760 hl (k := 6) rfl rfl (by decide) rfl (fun ls hl => ?_)
                  refine lv_goto (tgt := 23) hx hb dL_law_763 (by decide) ?_
                  refine W.widen (k := 20 + (j + 1)) (n := 17113 + 6 * (j + 1)) (by omega) (by omega) ?_
                  exact ih (j + 1) (i + (3 : Int32)) (f_L_register u g (xs (i + (1 : Int32)).toNatClampNeg)).2.1 (f_L_register u g (xs (i + (1 : Int32)).toNatClampNeg)).2.2 (f_X7_register v (xs (i + (1 : Int32)).toNatClampNeg)).2 _ _ _ (by omega) (by omega) (by rw [hi]; exact nI_3 j) (hR.2.2) hP hD hS (lv_sub hl [3, 4, 5, 6, 0] rfl)
              · skip
                by_cases q5 : (xs (i).toNatClampNeg &&& (15 : Int32)) = 5
                · refine tb_in (k := 5) (off := 373) (tgt := 412) hx hb dL_law_39 q5 (by decide) (by decide) (by decide) (by decide) ?_
                  refine lv_aload_n hx hb dL_law_412 rfl (lv_at hl 1 rfl) ?_
                  refine lv_aload_n hx hb dL_law_413 rfl (lv_at hl 0 rfl) ?_
                  refine lv_iload hx hb dL_law_414 (lv_at hl 4 rfl) ?_
                  refine lv_iconst (v := 1) hx hb dL_law_416 (by decide) ?_
                  refine lv_iadd hx hb dL_law_417 ?_
                  refine va_sld hx hb hX hbl hbA hS ix1 dL_law_418 ?_
                  refine lv_aload_n hx hb dL_law_419 rfl (lv_at hl 0 rfl) ?_
                  refine lv_iload hx hb dL_law_420 (lv_at hl 4 rfl) ?_
                  refine lv_iconst (v := 2) hx hb dL_law_422 (by decide) ?_
                  refine lv_iadd hx hb dL_law_423 ?_
                  refine va_sld hx hb hX hbl hbA hS ix2 dL_law_424 ?_
                  obtain ⟨hPc, hDc, hFc⟩ := xW_X hP hD hS hA
                  have hKc := hK.sub (tys' := [(cI, .int)]) [0] rfl
                  refine va_calli (vx_runSW (hh := [(0, 6, 9, 28)]) (As := [.ref xO, .int (xs (i + (1 : Int32)).toNatClampNeg), .int (xs (i + (2 : Int32)).toNatClampNeg)]) (rest := []) ⟨hx, hb, hml, hown, hts⟩ (k_L_put l hl0 dC dI cI xO pO mS mA dS dA cO iA oA kO fO aO rA H.size u (xs (i + (1 : Int32)).toNatClampNeg) (xs (i + (2 : Int32)).toNatClampNeg)) (vx_cwSW 3 hts gL_law_L_put rfl rfl rfl (by decide +kernel) ⟨Nat.le_of_ble_eq_true rfl, Nat.le_of_ble_eq_true rfl⟩) ⟨fun a U g mk q => by obtain ⟨q0, q1, qP, qK, qD, qT⟩ := q; exact ⟨q0, q1, qP, va_K.moved (u := U) (U := U.calling g mk a) (Vm.Alike.refl U.vm) qK, qD, qT.calling g mk a⟩, fun U hU hW => ⟨rfl, by rw [hU], by rw [hU]; exact hPc, va_K.moved hW.alike hKc, hDc.weaken (fun _ _ _ _ => trivial), hT.to hS hFc hU hW⟩⟩ rfl rfl hl.1 rfl (lv_room (Nat.le_of_ble_eq_true rfl)) dL_law_425 ⟨by show 20 + j + 1 ≤ 1055; omega, by show 17113 + 6 * j + 6 ≤ 25371; omega⟩) hS (fun q _ h => hFc q h) hFc (fun r9 x9 t H1 locs ht hvm hw hB hz1 hk1 hS => ?_)
                  have hw1 : (f_L_put u (xs (i + (1 : Int32)).toNatClampNeg) (xs (i + (2 : Int32)).toNatClampNeg)).1 = r9 := (congrArg Prod.fst hw).symm
                  have hw2 : (f_L_put u (xs (i + (1 : Int32)).toNatClampNeg) (xs (i + (2 : Int32)).toNatClampNeg)).2 = x9 := (congrArg Prod.snd hw).symm
                  subst hw1 hw2
                  clear hw
                  obtain ⟨hP1, hK1, hD1⟩ := hB
                  rw [ht] at hP1
                  obtain ⟨hP, hD⟩ := jW_X hP hD hk1 hFc hP1 hD1
                  clear hPc hDc hKc hFc hz1 hk1 hP1 hK1 hD1 ht hvm
                  generalize H1 = H at hP hS ⊢
                  refine lv_istore (lv' := [(5, .int (f_L_put u (xs (i + (1 : Int32)).toNatClampNeg) (xs (i + (2 : Int32)).toNatClampNeg)).1), (0, .ref b), (1, .ref xO), (2, .ref mO), (3, .ref oL), (4, .int i)]) hx hb dL_law_428 hl (by decide) rfl (fun ls hl => ?_)
                  refine lv_aload_n hx hb dL_law_430 rfl (lv_at hl 3 rfl) ?_
                  refine lv_aload_n hx hb dL_law_431 rfl (lv_at hl 1 rfl) ?_
                  refine lv_iload hx hb dL_law_432 (lv_at hl 5 rfl) ?_
                  refine lv_iconst (v := 1) hx hb dL_law_434 (by decide) ?_
                  refine lv_iadd hx hb dL_law_435 ?_
                  refine va_sld hx hb hX hbl hbA hS ix1 dL_law_436 ?_
                  refine lv_aload_n hx hb dL_law_437 rfl (lv_at hl 1 rfl) ?_
                  refine lv_iload hx hb dL_law_438 (lv_at hl 5 rfl) ?_
                  refine lv_iconst (v := 2) hx hb dL_law_440 (by decide) ?_
                  refine lv_iadd hx hb dL_law_441 ?_
                  refine va_sld hx hb hX hbl hbA hS ix2 dL_law_442 ?_
                  obtain ⟨hPc, hDc, hFc⟩ := xW_M hP hD hS hA
                  have hKc := hK.sub (tys' := [(cI, .int)]) [0] rfl
                  refine va_callv (va_runV (As := [.int (xs (i + (1 : Int32)).toNatClampNeg), .int (xs (i + (2 : Int32)).toNatClampNeg)]) (rest := []) ⟨hx, hb, hml, hown, hts⟩ (k_X7_put l dC dI cI mO memA dskA rgA inA outA H.size v (xs (i + (1 : Int32)).toNatClampNeg) (xs (i + (2 : Int32)).toNatClampNeg)) (cwV 2 hts gL_law_X7_put rfl rfl rfl (by decide +kernel) ⟨Nat.le_of_ble_eq_true rfl, Nat.le_of_ble_eq_true rfl⟩) ⟨fun a U g mk q => by obtain ⟨q0, q1, qP, qK, qD⟩ := q; exact ⟨q0, q1, qP, va_K.moved (u := U) (U := U.calling g mk a) (Vm.Alike.refl U.vm) qK, qD⟩, va_recv hKc hPc (ci := 7) (q0 := 0) rfl rfl, fun U hU hW => ⟨rfl, by rw [hU], by rw [hU]; exact hPc, va_K.moved hW.alike hKc, hDc.weaken (fun _ _ _ _ => trivial)⟩⟩ rfl rfl hl.1 rfl (lv_room (Nat.le_of_ble_eq_true rfl)) dL_law_443 ⟨by show 20 + j + 1 + 0 ≤ 1055; omega, by show 17113 + 6 * j + 6 + 0 ≤ 25371; omega⟩) hS (fun q _ h => hFc q h) hFc (fun u9 t H1 locs ht hvm hw hB hz1 hk1 hS => ?_)
                  have hw2 := hw.symm
                  clear hw
                  subst hw2
                  obtain ⟨hP1, hK1, hD1⟩ := hB
                  rw [ht] at hP1
                  obtain ⟨hP, hD⟩ := jW_M hP hD hk1 hFc hP1 hD1
                  clear hPc hDc hKc hFc hz1 hk1 hP1 hK1 hD1 ht hvm
                  generalize H1 = H at hP hS ⊢
                  refine lv_aload_n hx hb dL_law_446 rfl (lv_at hl 3 rfl) ?_
                  obtain ⟨hPc, hDc, hFc⟩ := xW_M hP hD hS hA
                  have hKc := hK.sub (tys' := [(cI, .int)]) [0] rfl
                  refine va_calli (va_runV (As := []) (rest := []) ⟨hx, hb, hml, hown, hts⟩ (k_X7_thrown l dC dI cI mO memA dskA rgA inA outA H.size (f_X7_put v (xs (i + (1 : Int32)).toNatClampNeg) (xs (i + (2 : Int32)).toNatClampNeg))) (cwV 0 hts gL_law_X7_thrown rfl rfl rfl (by decide +kernel) ⟨Nat.le_of_ble_eq_true rfl, Nat.le_of_ble_eq_true rfl⟩) ⟨fun a U g mk q => by obtain ⟨q0, q1, qP, qK, qD⟩ := q; exact ⟨q0, q1, qP, va_K.moved (u := U) (U := U.calling g mk a) (Vm.Alike.refl U.vm) qK, qD⟩, va_recv hKc hPc (ci := 7) (q0 := 0) rfl rfl, fun U hU hW => ⟨rfl, by rw [hU], by rw [hU]; exact hPc, va_K.moved hW.alike hKc, hDc.weaken (fun _ _ _ _ => trivial)⟩⟩ rfl rfl hl.1 rfl (lv_room (Nat.le_of_ble_eq_true rfl)) dL_law_447 ⟨by show 20 + j + 1 + 0 + 0 ≤ 1055; omega, by show 17113 + 6 * j + 6 + 0 + 0 ≤ 25371; omega⟩) hS (fun q _ h => hFc q h) hFc (fun r9 u9 t H1 locs ht hvm hw hB hz1 hk1 hS => ?_)
                  obtain ⟨hw1, hw2⟩ := hw
                  have hw1 := hw1.symm
                  have hw2 := hw2.symm
                  subst hw1 hw2
                  obtain ⟨hP1, hK1, hD1⟩ := hB
                  rw [ht] at hP1
                  obtain ⟨hP, hD⟩ := jW_M0 hP hD hk1 hFc hP1 hD1
                  clear hPc hDc hKc hFc hz1 hk1 hP1 hK1 hD1 ht hvm
                  generalize H1 = H at hP hS ⊢
                  refine lv_iload hx hb dL_law_450 (lv_at hl 0 rfl) ?_
                  have hR := R_put (a1 := (xs (i + (1 : Int32)).toNatClampNeg)) (a2 := (xs (i + (2 : Int32)).toNatClampNeg)) hj5 hRel
                  refine lv_icmp_eq (tgt := 457) hx hb dL_law_452 (by decide) (fun c9 => ?_) (fun c9 => absurd hR.1 c9)
                  refine lv_goto (tgt := 760) hx hb dL_law_457 (by decide) ?_
                  refine lv_iinc (v := (i + (3 : Int32))) (lv' := [(4, .int (i + (3 : Int32))), (5, .int (f_L_put u (xs (i + (1 : Int32)).toNatClampNeg) (xs (i + (2 : Int32)).toNatClampNeg)).1), (0, .ref b), (1, .ref xO), (2, .ref mO), (3, .ref oL)]) hx hb dL_law_760 hl (k := 5) rfl rfl (by decide) rfl (fun ls hl => ?_)
                  refine lv_goto (tgt := 23) hx hb dL_law_763 (by decide) ?_
                  refine W.widen (k := 20 + (j + 1)) (n := 17113 + 6 * (j + 1)) (by omega) (by omega) ?_
                  exact ih (j + 1) (i + (3 : Int32)) (f_L_put u (xs (i + (1 : Int32)).toNatClampNeg) (xs (i + (2 : Int32)).toNatClampNeg)).2 g (f_X7_put v (xs (i + (1 : Int32)).toNatClampNeg) (xs (i + (2 : Int32)).toNatClampNeg)) _ _ _ (by omega) (by omega) (by rw [hi]; exact nI_3 j) (hR.2) hP hD hS (lv_sub hl [2, 3, 4, 5, 0] rfl)
                · skip
                  by_cases q6 : (xs (i).toNatClampNeg &&& (15 : Int32)) = 6
                  · refine tb_in (k := 6) (off := 421) (tgt := 460) hx hb dL_law_39 q6 (by decide) (by decide) (by decide) (by decide) ?_
                    refine lv_aload_n hx hb dL_law_460 rfl (lv_at hl 1 rfl) ?_
                    refine lv_aload_n hx hb dL_law_461 rfl (lv_at hl 0 rfl) ?_
                    refine lv_iload hx hb dL_law_462 (lv_at hl 4 rfl) ?_
                    refine lv_iconst (v := 1) hx hb dL_law_464 (by decide) ?_
                    refine lv_iadd hx hb dL_law_465 ?_
                    refine va_sld hx hb hX hbl hbA hS ix1 dL_law_466 ?_
                    refine lv_aload_n hx hb dL_law_467 rfl (lv_at hl 3 rfl) ?_
                    obtain ⟨hPc, hDc, hFc⟩ := xW_L hP hD hS hA
                    have hKc := hK.sub (tys' := [(cI, .int), (cJ, .long)]) [0, 1] rfl
                    refine va_calli (vx_runSW (hh := [(0, 9, 12, 13)]) (As := [.ref xO, .int (xs (i + (1 : Int32)).toNatClampNeg), .ref oL]) (rest := []) ⟨hx, hb, hml, hown, hts⟩ (k_L_type l hl0 dC dI cI cJ oL xO pO mS mA dS dA cO iA oA kO fO aO rA H.size u g (xs (i + (1 : Int32)).toNatClampNeg) (R_hC hRel)) (vx_cwSW 3 hts gL_law_L_type rfl rfl rfl (by decide +kernel) ⟨Nat.le_of_ble_eq_true rfl, Nat.le_of_ble_eq_true rfl⟩) ⟨fun a U g mk q => by obtain ⟨q0, q1, qP, qK, qD, qT⟩ := q; exact ⟨q0, q1, qP, va_K.moved (u := U) (U := U.calling g mk a) (Vm.Alike.refl U.vm) qK, qD, qT.calling g mk a⟩, fun U hU hW => ⟨rfl, by rw [hU], by rw [hU]; exact hPc, va_K.moved hW.alike hKc, hDc.weaken (fun _ _ _ _ => trivial), hT.to hS hFc hU hW⟩⟩ rfl rfl hl.1 rfl (lv_room (Nat.le_of_ble_eq_true rfl)) dL_law_468 ⟨by show 20 + j + 1 ≤ 1055; omega, by show 17113 + 6 * j + 6 ≤ 25371; omega⟩) hS (fun q _ h => hFc q h) hFc (fun r9 x9 t H1 locs ht hvm hw hB hz1 hk1 hS => ?_)
                    have hw1 : (f_L_type u g (xs (i + (1 : Int32)).toNatClampNeg)).1 = r9 := (congrArg Prod.fst hw).symm
                    have hw2 : (f_L_type u g (xs (i + (1 : Int32)).toNatClampNeg)).2 = x9 := (congrArg Prod.snd hw).symm
                    subst hw1 hw2
                    clear hw
                    obtain ⟨hP1, hK1, hD1⟩ := hB
                    rw [ht] at hP1
                    obtain ⟨hP, hD⟩ := jW_L hP hD hk1 hFc hP1 hD1
                    clear hPc hDc hKc hFc hz1 hk1 hP1 hK1 hD1 ht hvm
                    generalize H1 = H at hP hS ⊢
                    refine lv_istore (lv' := [(5, .int (f_L_type u g (xs (i + (1 : Int32)).toNatClampNeg)).1), (0, .ref b), (1, .ref xO), (2, .ref mO), (3, .ref oL), (4, .int i)]) hx hb dL_law_471 hl (by decide) rfl (fun ls hl => ?_)
                    refine lv_aload_n hx hb dL_law_473 rfl (lv_at hl 3 rfl) ?_
                    refine lv_aload_n hx hb dL_law_474 rfl (lv_at hl 1 rfl) ?_
                    refine lv_iload hx hb dL_law_475 (lv_at hl 5 rfl) ?_
                    refine lv_iconst (v := 1) hx hb dL_law_477 (by decide) ?_
                    refine lv_iadd hx hb dL_law_478 ?_
                    refine va_sld hx hb hX hbl hbA hS ix1 dL_law_479 ?_
                    obtain ⟨hPc, hDc, hFc⟩ := xW_M hP hD hS hA
                    have hKc := hK.sub (tys' := [(cI, .int)]) [0] rfl
                    refine va_calli (va_runV (As := [.int (xs (i + (1 : Int32)).toNatClampNeg)]) (rest := []) ⟨hx, hb, hml, hown, hts⟩ (k_X7_type l dC dI cI mO memA dskA rgA inA outA H.size v (xs (i + (1 : Int32)).toNatClampNeg) (R_hI hRel)) (cwV 1 hts gL_law_X7_type rfl rfl rfl (by decide +kernel) ⟨Nat.le_of_ble_eq_true rfl, Nat.le_of_ble_eq_true rfl⟩) ⟨fun a U g mk q => by obtain ⟨q0, q1, qP, qK, qD⟩ := q; exact ⟨q0, q1, qP, va_K.moved (u := U) (U := U.calling g mk a) (Vm.Alike.refl U.vm) qK, qD⟩, va_recv hKc hPc (ci := 7) (q0 := 0) rfl rfl, fun U hU hW => ⟨rfl, by rw [hU], by rw [hU]; exact hPc, va_K.moved hW.alike hKc, hDc.weaken (fun _ _ _ _ => trivial)⟩⟩ rfl rfl hl.1 rfl (lv_room (Nat.le_of_ble_eq_true rfl)) dL_law_480 ⟨by show 20 + j + 1 + 0 ≤ 1055; omega, by show 17113 + 6 * j + 6 + 0 ≤ 25371; omega⟩) hS (fun q _ h => hFc q h) hFc (fun r9 u9 t H1 locs ht hvm hw hB hz1 hk1 hS => ?_)
                    obtain ⟨hw1, hw2⟩ := hw
                    have hw1 := hw1.symm
                    have hw2 := hw2.symm
                    subst hw1 hw2
                    obtain ⟨hP1, hK1, hD1⟩ := hB
                    rw [ht] at hP1
                    obtain ⟨hP, hD⟩ := jW_M hP hD hk1 hFc hP1 hD1
                    clear hPc hDc hKc hFc hz1 hk1 hP1 hK1 hD1 ht hvm
                    generalize H1 = H at hP hS ⊢
                    refine lv_istore (lv' := [(6, .int (f_X7_type v (xs (i + (1 : Int32)).toNatClampNeg)).1), (5, .int (f_L_type u g (xs (i + (1 : Int32)).toNatClampNeg)).1), (0, .ref b), (1, .ref xO), (2, .ref mO), (3, .ref oL), (4, .int i)]) hx hb dL_law_483 hl (by decide) rfl (fun ls hl => ?_)
                    refine lv_aload_n hx hb dL_law_485 rfl (lv_at hl 4 rfl) ?_
                    obtain ⟨hPc, hDc, hFc⟩ := xW_M hP hD hS hA
                    have hKc := hK.sub (tys' := [(cI, .int)]) [0] rfl
                    refine va_calli (va_runV (As := []) (rest := []) ⟨hx, hb, hml, hown, hts⟩ (k_X7_thrown l dC dI cI mO memA dskA rgA inA outA H.size (f_X7_type v (xs (i + (1 : Int32)).toNatClampNeg)).2) (cwV 0 hts gL_law_X7_thrown rfl rfl rfl (by decide +kernel) ⟨Nat.le_of_ble_eq_true rfl, Nat.le_of_ble_eq_true rfl⟩) ⟨fun a U g mk q => by obtain ⟨q0, q1, qP, qK, qD⟩ := q; exact ⟨q0, q1, qP, va_K.moved (u := U) (U := U.calling g mk a) (Vm.Alike.refl U.vm) qK, qD⟩, va_recv hKc hPc (ci := 7) (q0 := 0) rfl rfl, fun U hU hW => ⟨rfl, by rw [hU], by rw [hU]; exact hPc, va_K.moved hW.alike hKc, hDc.weaken (fun _ _ _ _ => trivial)⟩⟩ rfl rfl hl.1 rfl (lv_room (Nat.le_of_ble_eq_true rfl)) dL_law_486 ⟨by show 20 + j + 1 + 0 + 0 ≤ 1055; omega, by show 17113 + 6 * j + 6 + 0 + 0 ≤ 25371; omega⟩) hS (fun q _ h => hFc q h) hFc (fun r9 u9 t H1 locs ht hvm hw hB hz1 hk1 hS => ?_)
                    obtain ⟨hw1, hw2⟩ := hw
                    have hw1 := hw1.symm
                    have hw2 := hw2.symm
                    subst hw1 hw2
                    obtain ⟨hP1, hK1, hD1⟩ := hB
                    rw [ht] at hP1
                    obtain ⟨hP, hD⟩ := jW_M0 hP hD hk1 hFc hP1 hD1
                    clear hPc hDc hKc hFc hz1 hk1 hP1 hK1 hD1 ht hvm
                    generalize H1 = H at hP hS ⊢
                    refine lv_iload hx hb dL_law_489 (lv_at hl 1 rfl) ?_
                    have hR := R_type (g := g) (a1 := (xs (i + (1 : Int32)).toNatClampNeg)) hj5 hRel
                    refine lv_icmp_eq (tgt := 496) hx hb dL_law_491 (by decide) (fun c9 => ?_) (fun c9 => absurd hR.1 c9)
                    refine lv_iload hx hb dL_law_496 (lv_at hl 1 rfl) ?_
                    refine lv_if_ne (tgt := 513) hx hb dL_law_498 (by decide) (fun c8 => ?_) (fun c8 => ?_)
                    · skip
                      refine lv_goto (tgt := 760) hx hb dL_law_513 (by decide) ?_
                      refine lv_iinc (v := (i + (3 : Int32))) (lv' := [(4, .int (i + (3 : Int32))), (6, .int (f_X7_type v (xs (i + (1 : Int32)).toNatClampNeg)).1), (5, .int (f_L_type u g (xs (i + (1 : Int32)).toNatClampNeg)).1), (0, .ref b), (1, .ref xO), (2, .ref mO), (3, .ref oL)]) hx hb dL_law_760 hl (k := 6) rfl rfl (by decide) rfl (fun ls hl => ?_)
                      refine lv_goto (tgt := 23) hx hb dL_law_763 (by decide) ?_
                      refine W.widen (k := 20 + (j + 1)) (n := 17113 + 6 * (j + 1)) (by omega) (by omega) ?_
                      exact ih (j + 1) (i + (3 : Int32)) (f_L_type u g (xs (i + (1 : Int32)).toNatClampNeg)).2.1 (f_L_type u g (xs (i + (1 : Int32)).toNatClampNeg)).2.2 (f_X7_type v (xs (i + (1 : Int32)).toNatClampNeg)).2 _ _ _ (by omega) (by omega) (by rw [hi]; exact nI_3 j) (hR.2.2) hP hD hS (lv_sub hl [3, 4, 5, 6, 0] rfl)
                    · skip
                      refine lv_aload_n hx hb dL_law_501 rfl (lv_at hl 5 rfl) ?_
                      refine lv_iconst (v := 0) hx hb dL_law_502 (by decide) ?_
                      refine va_lald (f := (f_L_type u g (xs (i + (1 : Int32)).toNatClampNeg)).2.2) hx hb hK hP 0 1 rfl rfl (ix_lit (by decide)) dL_law_503 ?_
                      refine lv_iload hx hb dL_law_504 (lv_at hl 0 rfl) ?_
                      refine lv_i2l (v := ((f_X7_type v (xs (i + (1 : Int32)).toNatClampNeg)).1).toInt64) hx hb dL_law_506 rfl ?_
                      refine W.lcmp hx hb dL_law_507 ?_
                      refine lv_if_eq (tgt := 513) hx hb dL_law_508 (by decide) (fun c7 => ?_) (fun c7 => absurd (lg_cmp_same (hR.2.1 c8)) c7)
                      refine lv_goto (tgt := 760) hx hb dL_law_513 (by decide) ?_
                      refine lv_iinc (v := (i + (3 : Int32))) (lv' := [(4, .int (i + (3 : Int32))), (6, .int (f_X7_type v (xs (i + (1 : Int32)).toNatClampNeg)).1), (5, .int (f_L_type u g (xs (i + (1 : Int32)).toNatClampNeg)).1), (0, .ref b), (1, .ref xO), (2, .ref mO), (3, .ref oL)]) hx hb dL_law_760 hl (k := 6) rfl rfl (by decide) rfl (fun ls hl => ?_)
                      refine lv_goto (tgt := 23) hx hb dL_law_763 (by decide) ?_
                      refine W.widen (k := 20 + (j + 1)) (n := 17113 + 6 * (j + 1)) (by omega) (by omega) ?_
                      exact ih (j + 1) (i + (3 : Int32)) (f_L_type u g (xs (i + (1 : Int32)).toNatClampNeg)).2.1 (f_L_type u g (xs (i + (1 : Int32)).toNatClampNeg)).2.2 (f_X7_type v (xs (i + (1 : Int32)).toNatClampNeg)).2 _ _ _ (by omega) (by omega) (by rw [hi]; exact nI_3 j) (hR.2.2) hP hD hS (lv_sub hl [3, 4, 5, 6, 0] rfl)
                  · skip
                    by_cases q7 : (xs (i).toNatClampNeg &&& (15 : Int32)) = 7
                    · refine tb_in (k := 7) (off := 477) (tgt := 516) hx hb dL_law_39 q7 (by decide) (by decide) (by decide) (by decide) ?_
                      refine lv_aload_n hx hb dL_law_516 rfl (lv_at hl 1 rfl) ?_
                      obtain ⟨hPc, hDc, hFc⟩ := xW_X hP hD hS hA
                      have hKc := hK.sub (tys' := [(cI, .int)]) [0] rfl
                      refine va_calli (va_runV (As := []) (rest := []) ⟨hx, hb, hml, hown, hts⟩ (k_X6_written l dC dI cI xO pO mS mA dS dA cO iA oA kO fO aO rA H.size u) (cwV 0 hts gL_law_X6_written rfl rfl rfl (by decide +kernel) ⟨Nat.le_of_ble_eq_true rfl, Nat.le_of_ble_eq_true rfl⟩) ⟨fun a U g mk q => by obtain ⟨q0, q1, qP, qK, qD⟩ := q; exact ⟨q0, q1, qP, va_K.moved (u := U) (U := U.calling g mk a) (Vm.Alike.refl U.vm) qK, qD⟩, va_recv hKc hPc (ci := 6) (q0 := 0) rfl rfl, fun U hU hW => ⟨rfl, by rw [hU], by rw [hU]; exact hPc, va_K.moved hW.alike hKc, hDc.weaken (fun _ _ _ _ => trivial)⟩⟩ rfl rfl hl.1 rfl (lv_room (Nat.le_of_ble_eq_true rfl)) dL_law_517 ⟨by show 20 + j + 0 ≤ 1055; omega, by show 17113 + 6 * j + 0 ≤ 25371; omega⟩) hS (fun q _ h => hFc q h) hFc (fun r9 u9 t H1 locs ht hvm hw hB hz1 hk1 hS => ?_)
                      obtain ⟨hw1, hw2⟩ := hw
                      have hw1 := hw1.symm
                      have hw2 := hw2.symm
                      subst hw1 hw2
                      obtain ⟨hP1, hK1, hD1⟩ := hB
                      rw [ht] at hP1
                      obtain ⟨hP, hD⟩ := jW_X0 hP hD hk1 hFc hP1 hD1
                      clear hPc hDc hKc hFc hz1 hk1 hP1 hK1 hD1 ht hvm
                      generalize H1 = H at hP hS ⊢
                      refine lv_aload_n hx hb dL_law_520 rfl (lv_at hl 2 rfl) ?_
                      obtain ⟨hPc, hDc, hFc⟩ := xW_M hP hD hS hA
                      have hKc := hK.sub (tys' := [(cI, .int)]) [0] rfl
                      refine va_calli (va_runV (As := []) (rest := [.int (f_X6_written u)]) ⟨hx, hb, hml, hown, hts⟩ (k_X7_written l dC dI cI mO memA dskA rgA inA outA H.size v) (cwV 0 hts gL_law_X7_written rfl rfl rfl (by decide +kernel) ⟨Nat.le_of_ble_eq_true rfl, Nat.le_of_ble_eq_true rfl⟩) ⟨fun a U g mk q => by obtain ⟨q0, q1, qP, qK, qD⟩ := q; exact ⟨q0, q1, qP, va_K.moved (u := U) (U := U.calling g mk a) (Vm.Alike.refl U.vm) qK, qD⟩, va_recv hKc hPc (ci := 7) (q0 := 0) rfl rfl, fun U hU hW => ⟨rfl, by rw [hU], by rw [hU]; exact hPc, va_K.moved hW.alike hKc, hDc.weaken (fun _ _ _ _ => trivial)⟩⟩ rfl rfl hl.1 rfl (lv_room (Nat.le_of_ble_eq_true rfl)) dL_law_521 ⟨by show 20 + j + 0 + 0 ≤ 1055; omega, by show 17113 + 6 * j + 0 + 0 ≤ 25371; omega⟩) hS (fun q _ h => hFc q h) hFc (fun r9 u9 t H1 locs ht hvm hw hB hz1 hk1 hS => ?_)
                      obtain ⟨hw1, hw2⟩ := hw
                      have hw1 := hw1.symm
                      have hw2 := hw2.symm
                      subst hw1 hw2
                      obtain ⟨hP1, hK1, hD1⟩ := hB
                      rw [ht] at hP1
                      obtain ⟨hP, hD⟩ := jW_M hP hD hk1 hFc hP1 hD1
                      clear hPc hDc hKc hFc hz1 hk1 hP1 hK1 hD1 ht hvm
                      generalize H1 = H at hP hS ⊢
                      have hR := R_written hj5 hRel
                      refine lv_icmp_eq (tgt := 760) hx hb dL_law_524 (by decide) (fun c9 => ?_) (fun c9 => absurd hR.1 c9)
                      refine lv_iinc (v := (i + (3 : Int32))) (lv' := [(4, .int (i + (3 : Int32))), (0, .ref b), (1, .ref xO), (2, .ref mO), (3, .ref oL)]) hx hb dL_law_760 hl (k := 4) rfl rfl (by decide) rfl (fun ls hl => ?_)
                      refine lv_goto (tgt := 23) hx hb dL_law_763 (by decide) ?_
                      refine W.widen (k := 20 + (j + 1)) (n := 17113 + 6 * (j + 1)) (by omega) (by omega) ?_
                      exact ih (j + 1) (i + (3 : Int32)) u g (f_X7_written v).2 _ _ _ (by omega) (by omega) (by rw [hi]; exact nI_3 j) (hR.2) hP hD hS (lv_sub hl [1, 2, 3, 4, 0] rfl)
                    · skip
                      by_cases q8 : (xs (i).toNatClampNeg &&& (15 : Int32)) = 8
                      · refine tb_in (k := 8) (off := 490) (tgt := 529) hx hb dL_law_39 q8 (by decide) (by decide) (by decide) (by decide) ?_
                        refine lv_aload_n hx hb dL_law_529 rfl (lv_at hl 1 rfl) ?_
                        refine lv_aload_n hx hb dL_law_530 rfl (lv_at hl 0 rfl) ?_
                        refine lv_iload hx hb dL_law_531 (lv_at hl 4 rfl) ?_
                        refine lv_iconst (v := 1) hx hb dL_law_533 (by decide) ?_
                        refine lv_iadd hx hb dL_law_534 ?_
                        refine va_sld hx hb hX hbl hbA hS ix1 dL_law_535 ?_
                        refine lv_aload_n hx hb dL_law_536 rfl (lv_at hl 3 rfl) ?_
                        obtain ⟨hPc, hDc, hFc⟩ := xW_L hP hD hS hA
                        have hKc := hK.sub (tys' := [(cI, .int), (cJ, .long)]) [0, 1] rfl
                        refine va_calli (vx_runSW (hh := [(0, 9, 12, 28)]) (As := [.ref xO, .int (xs (i + (1 : Int32)).toNatClampNeg), .ref oL]) (rest := []) ⟨hx, hb, hml, hown, hts⟩ (k_L_text l hl0 dC dI cI cJ oL xO pO mS mA dS dA cO iA oA kO fO aO rA H.size u g (xs (i + (1 : Int32)).toNatClampNeg)) (vx_cwSW 3 hts gL_law_L_text rfl rfl rfl (by decide +kernel) ⟨Nat.le_of_ble_eq_true rfl, Nat.le_of_ble_eq_true rfl⟩) ⟨fun a U g mk q => by obtain ⟨q0, q1, qP, qK, qD, qT⟩ := q; exact ⟨q0, q1, qP, va_K.moved (u := U) (U := U.calling g mk a) (Vm.Alike.refl U.vm) qK, qD, qT.calling g mk a⟩, fun U hU hW => ⟨rfl, by rw [hU], by rw [hU]; exact hPc, va_K.moved hW.alike hKc, hDc.weaken (fun _ _ _ _ => trivial), hT.to hS hFc hU hW⟩⟩ rfl rfl hl.1 rfl (lv_room (Nat.le_of_ble_eq_true rfl)) dL_law_537 ⟨by show 20 + j + 1 ≤ 1055; omega, by show 17113 + 6 * j + 6 ≤ 25371; omega⟩) hS (fun q _ h => hFc q h) hFc (fun r9 x9 t H1 locs ht hvm hw hB hz1 hk1 hS => ?_)
                        have hw1 : (f_L_text u g (xs (i + (1 : Int32)).toNatClampNeg)).1 = r9 := (congrArg Prod.fst hw).symm
                        have hw2 : (f_L_text u g (xs (i + (1 : Int32)).toNatClampNeg)).2 = x9 := (congrArg Prod.snd hw).symm
                        subst hw1 hw2
                        clear hw
                        obtain ⟨hP1, hK1, hD1⟩ := hB
                        rw [ht] at hP1
                        obtain ⟨hP, hD⟩ := jW_L hP hD hk1 hFc hP1 hD1
                        clear hPc hDc hKc hFc hz1 hk1 hP1 hK1 hD1 ht hvm
                        generalize H1 = H at hP hS ⊢
                        refine lv_istore (lv' := [(5, .int (f_L_text u g (xs (i + (1 : Int32)).toNatClampNeg)).1), (0, .ref b), (1, .ref xO), (2, .ref mO), (3, .ref oL), (4, .int i)]) hx hb dL_law_540 hl (by decide) rfl (fun ls hl => ?_)
                        refine lv_aload_n hx hb dL_law_542 rfl (lv_at hl 3 rfl) ?_
                        refine lv_aload_n hx hb dL_law_543 rfl (lv_at hl 1 rfl) ?_
                        refine lv_iload hx hb dL_law_544 (lv_at hl 5 rfl) ?_
                        refine lv_iconst (v := 1) hx hb dL_law_546 (by decide) ?_
                        refine lv_iadd hx hb dL_law_547 ?_
                        refine va_sld hx hb hX hbl hbA hS ix1 dL_law_548 ?_
                        obtain ⟨hPc, hDc, hFc⟩ := xW_M hP hD hS hA
                        have hKc := hK.sub (tys' := [(cI, .int)]) [0] rfl
                        refine va_calli (va_runV (As := [.int (xs (i + (1 : Int32)).toNatClampNeg)]) (rest := []) ⟨hx, hb, hml, hown, hts⟩ (k_X7_text l dC dI cI mO memA dskA rgA inA outA H.size v (xs (i + (1 : Int32)).toNatClampNeg)) (cwV 1 hts gL_law_X7_text rfl rfl rfl (by decide +kernel) ⟨Nat.le_of_ble_eq_true rfl, Nat.le_of_ble_eq_true rfl⟩) ⟨fun a U g mk q => by obtain ⟨q0, q1, qP, qK, qD⟩ := q; exact ⟨q0, q1, qP, va_K.moved (u := U) (U := U.calling g mk a) (Vm.Alike.refl U.vm) qK, qD⟩, va_recv hKc hPc (ci := 7) (q0 := 0) rfl rfl, fun U hU hW => ⟨rfl, by rw [hU], by rw [hU]; exact hPc, va_K.moved hW.alike hKc, hDc.weaken (fun _ _ _ _ => trivial)⟩⟩ rfl rfl hl.1 rfl (lv_room (Nat.le_of_ble_eq_true rfl)) dL_law_549 ⟨by show 20 + j + 1 + 0 ≤ 1055; omega, by show 17113 + 6 * j + 6 + 0 ≤ 25371; omega⟩) hS (fun q _ h => hFc q h) hFc (fun r9 u9 t H1 locs ht hvm hw hB hz1 hk1 hS => ?_)
                        obtain ⟨hw1, hw2⟩ := hw
                        have hw1 := hw1.symm
                        have hw2 := hw2.symm
                        subst hw1 hw2
                        obtain ⟨hP1, hK1, hD1⟩ := hB
                        rw [ht] at hP1
                        obtain ⟨hP, hD⟩ := jW_M hP hD hk1 hFc hP1 hD1
                        clear hPc hDc hKc hFc hz1 hk1 hP1 hK1 hD1 ht hvm
                        generalize H1 = H at hP hS ⊢
                        refine lv_istore (lv' := [(6, .int (f_X7_text v (xs (i + (1 : Int32)).toNatClampNeg)).1), (5, .int (f_L_text u g (xs (i + (1 : Int32)).toNatClampNeg)).1), (0, .ref b), (1, .ref xO), (2, .ref mO), (3, .ref oL), (4, .int i)]) hx hb dL_law_552 hl (by decide) rfl (fun ls hl => ?_)
                        refine lv_aload_n hx hb dL_law_554 rfl (lv_at hl 4 rfl) ?_
                        obtain ⟨hPc, hDc, hFc⟩ := xW_M hP hD hS hA
                        have hKc := hK.sub (tys' := [(cI, .int)]) [0] rfl
                        refine va_calli (va_runV (As := []) (rest := []) ⟨hx, hb, hml, hown, hts⟩ (k_X7_thrown l dC dI cI mO memA dskA rgA inA outA H.size (f_X7_text v (xs (i + (1 : Int32)).toNatClampNeg)).2) (cwV 0 hts gL_law_X7_thrown rfl rfl rfl (by decide +kernel) ⟨Nat.le_of_ble_eq_true rfl, Nat.le_of_ble_eq_true rfl⟩) ⟨fun a U g mk q => by obtain ⟨q0, q1, qP, qK, qD⟩ := q; exact ⟨q0, q1, qP, va_K.moved (u := U) (U := U.calling g mk a) (Vm.Alike.refl U.vm) qK, qD⟩, va_recv hKc hPc (ci := 7) (q0 := 0) rfl rfl, fun U hU hW => ⟨rfl, by rw [hU], by rw [hU]; exact hPc, va_K.moved hW.alike hKc, hDc.weaken (fun _ _ _ _ => trivial)⟩⟩ rfl rfl hl.1 rfl (lv_room (Nat.le_of_ble_eq_true rfl)) dL_law_555 ⟨by show 20 + j + 1 + 0 + 0 ≤ 1055; omega, by show 17113 + 6 * j + 6 + 0 + 0 ≤ 25371; omega⟩) hS (fun q _ h => hFc q h) hFc (fun r9 u9 t H1 locs ht hvm hw hB hz1 hk1 hS => ?_)
                        obtain ⟨hw1, hw2⟩ := hw
                        have hw1 := hw1.symm
                        have hw2 := hw2.symm
                        subst hw1 hw2
                        obtain ⟨hP1, hK1, hD1⟩ := hB
                        rw [ht] at hP1
                        obtain ⟨hP, hD⟩ := jW_M0 hP hD hk1 hFc hP1 hD1
                        clear hPc hDc hKc hFc hz1 hk1 hP1 hK1 hD1 ht hvm
                        generalize H1 = H at hP hS ⊢
                        refine lv_iload hx hb dL_law_558 (lv_at hl 1 rfl) ?_
                        have hR := R_text (g := g) (a1 := (xs (i + (1 : Int32)).toNatClampNeg)) hj5 hRel
                        refine lv_icmp_eq (tgt := 565) hx hb dL_law_560 (by decide) (fun c9 => ?_) (fun c9 => absurd hR.1 c9)
                        refine lv_iload hx hb dL_law_565 (lv_at hl 1 rfl) ?_
                        refine lv_if_ne (tgt := 582) hx hb dL_law_567 (by decide) (fun c8 => ?_) (fun c8 => ?_)
                        · skip
                          refine lv_goto (tgt := 760) hx hb dL_law_582 (by decide) ?_
                          refine lv_iinc (v := (i + (3 : Int32))) (lv' := [(4, .int (i + (3 : Int32))), (6, .int (f_X7_text v (xs (i + (1 : Int32)).toNatClampNeg)).1), (5, .int (f_L_text u g (xs (i + (1 : Int32)).toNatClampNeg)).1), (0, .ref b), (1, .ref xO), (2, .ref mO), (3, .ref oL)]) hx hb dL_law_760 hl (k := 6) rfl rfl (by decide) rfl (fun ls hl => ?_)
                          refine lv_goto (tgt := 23) hx hb dL_law_763 (by decide) ?_
                          refine W.widen (k := 20 + (j + 1)) (n := 17113 + 6 * (j + 1)) (by omega) (by omega) ?_
                          exact ih (j + 1) (i + (3 : Int32)) (f_L_text u g (xs (i + (1 : Int32)).toNatClampNeg)).2.1 (f_L_text u g (xs (i + (1 : Int32)).toNatClampNeg)).2.2 (f_X7_text v (xs (i + (1 : Int32)).toNatClampNeg)).2 _ _ _ (by omega) (by omega) (by rw [hi]; exact nI_3 j) (hR.2.2) hP hD hS (lv_sub hl [3, 4, 5, 6, 0] rfl)
                        · skip
                          refine lv_aload_n hx hb dL_law_570 rfl (lv_at hl 5 rfl) ?_
                          refine lv_iconst (v := 0) hx hb dL_law_571 (by decide) ?_
                          refine va_lald (f := (f_L_text u g (xs (i + (1 : Int32)).toNatClampNeg)).2.2) hx hb hK hP 0 1 rfl rfl (ix_lit (by decide)) dL_law_572 ?_
                          refine lv_iload hx hb dL_law_573 (lv_at hl 0 rfl) ?_
                          refine lv_i2l (v := ((f_X7_text v (xs (i + (1 : Int32)).toNatClampNeg)).1).toInt64) hx hb dL_law_575 rfl ?_
                          refine W.lcmp hx hb dL_law_576 ?_
                          refine lv_if_eq (tgt := 582) hx hb dL_law_577 (by decide) (fun c7 => ?_) (fun c7 => absurd (lg_cmp_same (hR.2.1 c8)) c7)
                          refine lv_goto (tgt := 760) hx hb dL_law_582 (by decide) ?_
                          refine lv_iinc (v := (i + (3 : Int32))) (lv' := [(4, .int (i + (3 : Int32))), (6, .int (f_X7_text v (xs (i + (1 : Int32)).toNatClampNeg)).1), (5, .int (f_L_text u g (xs (i + (1 : Int32)).toNatClampNeg)).1), (0, .ref b), (1, .ref xO), (2, .ref mO), (3, .ref oL)]) hx hb dL_law_760 hl (k := 6) rfl rfl (by decide) rfl (fun ls hl => ?_)
                          refine lv_goto (tgt := 23) hx hb dL_law_763 (by decide) ?_
                          refine W.widen (k := 20 + (j + 1)) (n := 17113 + 6 * (j + 1)) (by omega) (by omega) ?_
                          exact ih (j + 1) (i + (3 : Int32)) (f_L_text u g (xs (i + (1 : Int32)).toNatClampNeg)).2.1 (f_L_text u g (xs (i + (1 : Int32)).toNatClampNeg)).2.2 (f_X7_text v (xs (i + (1 : Int32)).toNatClampNeg)).2 _ _ _ (by omega) (by omega) (by rw [hi]; exact nI_3 j) (hR.2.2) hP hD hS (lv_sub hl [3, 4, 5, 6, 0] rfl)
                      · skip
                        by_cases q9 : (xs (i).toNatClampNeg &&& (15 : Int32)) = 9
                        · refine tb_in (k := 9) (off := 546) (tgt := 585) hx hb dL_law_39 q9 (by decide) (by decide) (by decide) (by decide) ?_
                          refine lv_aload_n hx hb dL_law_585 rfl (lv_at hl 1 rfl) ?_
                          refine lv_aload_n hx hb dL_law_586 rfl (lv_at hl 0 rfl) ?_
                          refine lv_iload hx hb dL_law_587 (lv_at hl 4 rfl) ?_
                          refine lv_iconst (v := 1) hx hb dL_law_589 (by decide) ?_
                          refine lv_iadd hx hb dL_law_590 ?_
                          refine va_sld hx hb hX hbl hbA hS ix1 dL_law_591 ?_
                          obtain ⟨hPc, hDc, hFc⟩ := xW_X hP hD hS hA
                          have hKc := hK.sub (tys' := [(cI, .int)]) [0] rfl
                          refine va_calli (vx_runSW (hh := [(0, 5, 8, 13)]) (As := [.ref xO, .int (xs (i + (1 : Int32)).toNatClampNeg)]) (rest := []) ⟨hx, hb, hml, hown, hts⟩ (k_L_want l hl0 dC dI cI xO pO mS mA dS dA cO iA oA kO fO aO rA H.size u (xs (i + (1 : Int32)).toNatClampNeg)) (vx_cwSW 2 hts gL_law_L_want rfl rfl rfl (by decide +kernel) ⟨Nat.le_of_ble_eq_true rfl, Nat.le_of_ble_eq_true rfl⟩) ⟨fun a U g mk q => by obtain ⟨q0, q1, qP, qK, qD, qT⟩ := q; exact ⟨q0, q1, qP, va_K.moved (u := U) (U := U.calling g mk a) (Vm.Alike.refl U.vm) qK, qD, qT.calling g mk a⟩, fun U hU hW => ⟨rfl, by rw [hU], by rw [hU]; exact hPc, va_K.moved hW.alike hKc, hDc.weaken (fun _ _ _ _ => trivial), hT.to hS hFc hU hW⟩⟩ rfl rfl hl.1 rfl (lv_room (Nat.le_of_ble_eq_true rfl)) dL_law_592 ⟨by show 20 + j + 1 ≤ 1055; omega, by show 17113 + 6 * j + 6 ≤ 25371; omega⟩) hS (fun q _ h => hFc q h) hFc (fun r9 x9 t H1 locs ht hvm hw hB hz1 hk1 hS => ?_)
                          have hw1 : (f_L_want u (xs (i + (1 : Int32)).toNatClampNeg)).1 = r9 := (congrArg Prod.fst hw).symm
                          have hw2 : (f_L_want u (xs (i + (1 : Int32)).toNatClampNeg)).2 = x9 := (congrArg Prod.snd hw).symm
                          subst hw1 hw2
                          clear hw
                          obtain ⟨hP1, hK1, hD1⟩ := hB
                          rw [ht] at hP1
                          obtain ⟨hP, hD⟩ := jW_X hP hD hk1 hFc hP1 hD1
                          clear hPc hDc hKc hFc hz1 hk1 hP1 hK1 hD1 ht hvm
                          generalize H1 = H at hP hS ⊢
                          refine lv_istore (lv' := [(5, .int (f_L_want u (xs (i + (1 : Int32)).toNatClampNeg)).1), (0, .ref b), (1, .ref xO), (2, .ref mO), (3, .ref oL), (4, .int i)]) hx hb dL_law_595 hl (by decide) rfl (fun ls hl => ?_)
                          refine lv_aload_n hx hb dL_law_597 rfl (lv_at hl 3 rfl) ?_
                          refine lv_aload_n hx hb dL_law_598 rfl (lv_at hl 1 rfl) ?_
                          refine lv_iload hx hb dL_law_599 (lv_at hl 5 rfl) ?_
                          refine lv_iconst (v := 1) hx hb dL_law_601 (by decide) ?_
                          refine lv_iadd hx hb dL_law_602 ?_
                          refine va_sld hx hb hX hbl hbA hS ix1 dL_law_603 ?_
                          obtain ⟨hPc, hDc, hFc⟩ := xW_M hP hD hS hA
                          have hKc := hK.sub (tys' := [(cI, .int)]) [0] rfl
                          refine va_callv (va_runV (As := [.int (xs (i + (1 : Int32)).toNatClampNeg)]) (rest := []) ⟨hx, hb, hml, hown, hts⟩ (k_X7_want l dC dI cI mO memA dskA rgA inA outA H.size v (xs (i + (1 : Int32)).toNatClampNeg)) (cwV 1 hts gL_law_X7_want rfl rfl rfl (by decide +kernel) ⟨Nat.le_of_ble_eq_true rfl, Nat.le_of_ble_eq_true rfl⟩) ⟨fun a U g mk q => by obtain ⟨q0, q1, qP, qK, qD⟩ := q; exact ⟨q0, q1, qP, va_K.moved (u := U) (U := U.calling g mk a) (Vm.Alike.refl U.vm) qK, qD⟩, va_recv hKc hPc (ci := 7) (q0 := 0) rfl rfl, fun U hU hW => ⟨rfl, by rw [hU], by rw [hU]; exact hPc, va_K.moved hW.alike hKc, hDc.weaken (fun _ _ _ _ => trivial)⟩⟩ rfl rfl hl.1 rfl (lv_room (Nat.le_of_ble_eq_true rfl)) dL_law_604 ⟨by show 20 + j + 1 + 0 ≤ 1055; omega, by show 17113 + 6 * j + 6 + 0 ≤ 25371; omega⟩) hS (fun q _ h => hFc q h) hFc (fun u9 t H1 locs ht hvm hw hB hz1 hk1 hS => ?_)
                          have hw2 := hw.symm
                          clear hw
                          subst hw2
                          obtain ⟨hP1, hK1, hD1⟩ := hB
                          rw [ht] at hP1
                          obtain ⟨hP, hD⟩ := jW_M hP hD hk1 hFc hP1 hD1
                          clear hPc hDc hKc hFc hz1 hk1 hP1 hK1 hD1 ht hvm
                          generalize H1 = H at hP hS ⊢
                          refine lv_aload_n hx hb dL_law_607 rfl (lv_at hl 3 rfl) ?_
                          obtain ⟨hPc, hDc, hFc⟩ := xW_M hP hD hS hA
                          have hKc := hK.sub (tys' := [(cI, .int)]) [0] rfl
                          refine va_calli (va_runV (As := []) (rest := []) ⟨hx, hb, hml, hown, hts⟩ (k_X7_thrown l dC dI cI mO memA dskA rgA inA outA H.size (f_X7_want v (xs (i + (1 : Int32)).toNatClampNeg))) (cwV 0 hts gL_law_X7_thrown rfl rfl rfl (by decide +kernel) ⟨Nat.le_of_ble_eq_true rfl, Nat.le_of_ble_eq_true rfl⟩) ⟨fun a U g mk q => by obtain ⟨q0, q1, qP, qK, qD⟩ := q; exact ⟨q0, q1, qP, va_K.moved (u := U) (U := U.calling g mk a) (Vm.Alike.refl U.vm) qK, qD⟩, va_recv hKc hPc (ci := 7) (q0 := 0) rfl rfl, fun U hU hW => ⟨rfl, by rw [hU], by rw [hU]; exact hPc, va_K.moved hW.alike hKc, hDc.weaken (fun _ _ _ _ => trivial)⟩⟩ rfl rfl hl.1 rfl (lv_room (Nat.le_of_ble_eq_true rfl)) dL_law_608 ⟨by show 20 + j + 1 + 0 + 0 ≤ 1055; omega, by show 17113 + 6 * j + 6 + 0 + 0 ≤ 25371; omega⟩) hS (fun q _ h => hFc q h) hFc (fun r9 u9 t H1 locs ht hvm hw hB hz1 hk1 hS => ?_)
                          obtain ⟨hw1, hw2⟩ := hw
                          have hw1 := hw1.symm
                          have hw2 := hw2.symm
                          subst hw1 hw2
                          obtain ⟨hP1, hK1, hD1⟩ := hB
                          rw [ht] at hP1
                          obtain ⟨hP, hD⟩ := jW_M0 hP hD hk1 hFc hP1 hD1
                          clear hPc hDc hKc hFc hz1 hk1 hP1 hK1 hD1 ht hvm
                          generalize H1 = H at hP hS ⊢
                          refine lv_iload hx hb dL_law_611 (lv_at hl 0 rfl) ?_
                          have hR := R_want (a1 := (xs (i + (1 : Int32)).toNatClampNeg)) hj5 hRel
                          refine lv_icmp_eq (tgt := 618) hx hb dL_law_613 (by decide) (fun c9 => ?_) (fun c9 => absurd hR.1 c9)
                          refine lv_goto (tgt := 760) hx hb dL_law_618 (by decide) ?_
                          refine lv_iinc (v := (i + (3 : Int32))) (lv' := [(4, .int (i + (3 : Int32))), (5, .int (f_L_want u (xs (i + (1 : Int32)).toNatClampNeg)).1), (0, .ref b), (1, .ref xO), (2, .ref mO), (3, .ref oL)]) hx hb dL_law_760 hl (k := 5) rfl rfl (by decide) rfl (fun ls hl => ?_)
                          refine lv_goto (tgt := 23) hx hb dL_law_763 (by decide) ?_
                          refine W.widen (k := 20 + (j + 1)) (n := 17113 + 6 * (j + 1)) (by omega) (by omega) ?_
                          exact ih (j + 1) (i + (3 : Int32)) (f_L_want u (xs (i + (1 : Int32)).toNatClampNeg)).2 g (f_X7_want v (xs (i + (1 : Int32)).toNatClampNeg)) _ _ _ (by omega) (by omega) (by rw [hi]; exact nI_3 j) (hR.2) hP hD hS (lv_sub hl [2, 3, 4, 5, 0] rfl)
                        · skip
                          by_cases q10 : (xs (i).toNatClampNeg &&& (15 : Int32)) = 10
                          · refine tb_in (k := 10) (off := 582) (tgt := 621) hx hb dL_law_39 q10 (by decide) (by decide) (by decide) (by decide) ?_
                            refine lv_aload_n hx hb dL_law_621 rfl (lv_at hl 1 rfl) ?_
                            refine lv_aload_n hx hb dL_law_622 rfl (lv_at hl 0 rfl) ?_
                            refine lv_iload hx hb dL_law_623 (lv_at hl 4 rfl) ?_
                            refine lv_iconst (v := 1) hx hb dL_law_625 (by decide) ?_
                            refine lv_iadd hx hb dL_law_626 ?_
                            refine va_sld hx hb hX hbl hbA hS ix1 dL_law_627 ?_
                            refine lv_aload_n hx hb dL_law_628 rfl (lv_at hl 3 rfl) ?_
                            obtain ⟨hPc, hDc, hFc⟩ := xW_L hP hD hS hA
                            have hKc := hK.sub (tys' := [(cI, .int), (cJ, .long)]) [0, 1] rfl
                            refine va_calli (vx_runSW (hh := [(0, 9, 12, 13)]) (As := [.ref xO, .int (xs (i + (1 : Int32)).toNatClampNeg), .ref oL]) (rest := []) ⟨hx, hb, hml, hown, hts⟩ (k_L_step l hl0 dC dI cI cJ oL xO pO mS mA dS dA cO iA oA kO fO aO rA H.size u g (xs (i + (1 : Int32)).toNatClampNeg) (R_hG hj5 hRel)) (vx_cwSW 3 hts gL_law_L_step rfl rfl rfl (by decide +kernel) ⟨Nat.le_of_ble_eq_true rfl, Nat.le_of_ble_eq_true rfl⟩) ⟨fun a U g mk q => by obtain ⟨q0, q1, qP, qK, qD, qT⟩ := q; exact ⟨q0, q1, qP, va_K.moved (u := U) (U := U.calling g mk a) (Vm.Alike.refl U.vm) qK, qD, qT.calling g mk a⟩, fun U hU hW => ⟨rfl, by rw [hU], by rw [hU]; exact hPc, va_K.moved hW.alike hKc, hDc.weaken (fun _ _ _ _ => trivial), hT.to hS hFc hU hW⟩⟩ rfl rfl hl.1 rfl (lv_room (Nat.le_of_ble_eq_true rfl)) dL_law_629 ⟨by show 20 + j + 1 ≤ 1055; omega, by show 17113 + 6 * j + 6 ≤ 25371; omega⟩) hS (fun q _ h => hFc q h) hFc (fun r9 x9 t H1 locs ht hvm hw hB hz1 hk1 hS => ?_)
                            have hw1 : (f_L_step u g (xs (i + (1 : Int32)).toNatClampNeg)).1 = r9 := (congrArg Prod.fst hw).symm
                            have hw2 : (f_L_step u g (xs (i + (1 : Int32)).toNatClampNeg)).2 = x9 := (congrArg Prod.snd hw).symm
                            subst hw1 hw2
                            clear hw
                            obtain ⟨hP1, hK1, hD1⟩ := hB
                            rw [ht] at hP1
                            obtain ⟨hP, hD⟩ := jW_L hP hD hk1 hFc hP1 hD1
                            clear hPc hDc hKc hFc hz1 hk1 hP1 hK1 hD1 ht hvm
                            generalize H1 = H at hP hS ⊢
                            refine lv_istore (lv' := [(5, .int (f_L_step u g (xs (i + (1 : Int32)).toNatClampNeg)).1), (0, .ref b), (1, .ref xO), (2, .ref mO), (3, .ref oL), (4, .int i)]) hx hb dL_law_632 hl (by decide) rfl (fun ls hl => ?_)
                            refine lv_aload_n hx hb dL_law_634 rfl (lv_at hl 3 rfl) ?_
                            refine lv_aload_n hx hb dL_law_635 rfl (lv_at hl 1 rfl) ?_
                            refine lv_iload hx hb dL_law_636 (lv_at hl 5 rfl) ?_
                            refine lv_iconst (v := 1) hx hb dL_law_638 (by decide) ?_
                            refine lv_iadd hx hb dL_law_639 ?_
                            refine va_sld hx hb hX hbl hbA hS ix1 dL_law_640 ?_
                            obtain ⟨hPc, hDc, hFc⟩ := xW_M hP hD hS hA
                            have hKc := hK.sub (tys' := [(cI, .int)]) [0] rfl
                            refine va_calli (va_runV (As := [.int (xs (i + (1 : Int32)).toNatClampNeg)]) (rest := []) ⟨hx, hb, hml, hown, hts⟩ (k_X7_step l dC dI cI mO memA dskA rgA inA outA H.size v (xs (i + (1 : Int32)).toNatClampNeg) (R_hM hj5 hRel)) (cwV 1 hts gL_law_X7_step rfl rfl rfl (by decide +kernel) ⟨Nat.le_of_ble_eq_true rfl, Nat.le_of_ble_eq_true rfl⟩) ⟨fun a U g mk q => by obtain ⟨q0, q1, qP, qK, qD⟩ := q; exact ⟨q0, q1, qP, va_K.moved (u := U) (U := U.calling g mk a) (Vm.Alike.refl U.vm) qK, qD⟩, va_recv hKc hPc (ci := 7) (q0 := 0) rfl rfl, fun U hU hW => ⟨rfl, by rw [hU], by rw [hU]; exact hPc, va_K.moved hW.alike hKc, hDc.weaken (fun _ _ _ _ => trivial)⟩⟩ rfl rfl hl.1 rfl (lv_room (Nat.le_of_ble_eq_true rfl)) dL_law_641 ⟨by show 20 + j + 1 + 0 ≤ 1055; omega, by show 17113 + 6 * j + 6 + 0 ≤ 25371; omega⟩) hS (fun q _ h => hFc q h) hFc (fun r9 u9 t H1 locs ht hvm hw hB hz1 hk1 hS => ?_)
                            obtain ⟨hw1, hw2⟩ := hw
                            have hw1 := hw1.symm
                            have hw2 := hw2.symm
                            subst hw1 hw2
                            obtain ⟨hP1, hK1, hD1⟩ := hB
                            rw [ht] at hP1
                            obtain ⟨hP, hD⟩ := jW_M hP hD hk1 hFc hP1 hD1
                            clear hPc hDc hKc hFc hz1 hk1 hP1 hK1 hD1 ht hvm
                            generalize H1 = H at hP hS ⊢
                            refine lv_istore (lv' := [(6, .int (f_X7_step v (xs (i + (1 : Int32)).toNatClampNeg)).1), (5, .int (f_L_step u g (xs (i + (1 : Int32)).toNatClampNeg)).1), (0, .ref b), (1, .ref xO), (2, .ref mO), (3, .ref oL), (4, .int i)]) hx hb dL_law_644 hl (by decide) rfl (fun ls hl => ?_)
                            refine lv_aload_n hx hb dL_law_646 rfl (lv_at hl 4 rfl) ?_
                            obtain ⟨hPc, hDc, hFc⟩ := xW_M hP hD hS hA
                            have hKc := hK.sub (tys' := [(cI, .int)]) [0] rfl
                            refine va_calli (va_runV (As := []) (rest := []) ⟨hx, hb, hml, hown, hts⟩ (k_X7_thrown l dC dI cI mO memA dskA rgA inA outA H.size (f_X7_step v (xs (i + (1 : Int32)).toNatClampNeg)).2) (cwV 0 hts gL_law_X7_thrown rfl rfl rfl (by decide +kernel) ⟨Nat.le_of_ble_eq_true rfl, Nat.le_of_ble_eq_true rfl⟩) ⟨fun a U g mk q => by obtain ⟨q0, q1, qP, qK, qD⟩ := q; exact ⟨q0, q1, qP, va_K.moved (u := U) (U := U.calling g mk a) (Vm.Alike.refl U.vm) qK, qD⟩, va_recv hKc hPc (ci := 7) (q0 := 0) rfl rfl, fun U hU hW => ⟨rfl, by rw [hU], by rw [hU]; exact hPc, va_K.moved hW.alike hKc, hDc.weaken (fun _ _ _ _ => trivial)⟩⟩ rfl rfl hl.1 rfl (lv_room (Nat.le_of_ble_eq_true rfl)) dL_law_647 ⟨by show 20 + j + 1 + 0 + 0 ≤ 1055; omega, by show 17113 + 6 * j + 6 + 0 + 0 ≤ 25371; omega⟩) hS (fun q _ h => hFc q h) hFc (fun r9 u9 t H1 locs ht hvm hw hB hz1 hk1 hS => ?_)
                            obtain ⟨hw1, hw2⟩ := hw
                            have hw1 := hw1.symm
                            have hw2 := hw2.symm
                            subst hw1 hw2
                            obtain ⟨hP1, hK1, hD1⟩ := hB
                            rw [ht] at hP1
                            obtain ⟨hP, hD⟩ := jW_M0 hP hD hk1 hFc hP1 hD1
                            clear hPc hDc hKc hFc hz1 hk1 hP1 hK1 hD1 ht hvm
                            generalize H1 = H at hP hS ⊢
                            refine lv_iload hx hb dL_law_650 (lv_at hl 1 rfl) ?_
                            have hR := R_step (g := g) (a1 := (xs (i + (1 : Int32)).toNatClampNeg)) hj5 hRel
                            refine lv_icmp_eq (tgt := 657) hx hb dL_law_652 (by decide) (fun c9 => ?_) (fun c9 => absurd hR.1 c9)
                            refine lv_iload hx hb dL_law_657 (lv_at hl 1 rfl) ?_
                            refine lv_if_ne (tgt := 674) hx hb dL_law_659 (by decide) (fun c8 => ?_) (fun c8 => ?_)
                            · skip
                              refine lv_goto (tgt := 760) hx hb dL_law_674 (by decide) ?_
                              refine lv_iinc (v := (i + (3 : Int32))) (lv' := [(4, .int (i + (3 : Int32))), (6, .int (f_X7_step v (xs (i + (1 : Int32)).toNatClampNeg)).1), (5, .int (f_L_step u g (xs (i + (1 : Int32)).toNatClampNeg)).1), (0, .ref b), (1, .ref xO), (2, .ref mO), (3, .ref oL)]) hx hb dL_law_760 hl (k := 6) rfl rfl (by decide) rfl (fun ls hl => ?_)
                              refine lv_goto (tgt := 23) hx hb dL_law_763 (by decide) ?_
                              refine W.widen (k := 20 + (j + 1)) (n := 17113 + 6 * (j + 1)) (by omega) (by omega) ?_
                              exact ih (j + 1) (i + (3 : Int32)) (f_L_step u g (xs (i + (1 : Int32)).toNatClampNeg)).2.1 (f_L_step u g (xs (i + (1 : Int32)).toNatClampNeg)).2.2 (f_X7_step v (xs (i + (1 : Int32)).toNatClampNeg)).2 _ _ _ (by omega) (by omega) (by rw [hi]; exact nI_3 j) (hR.2.2) hP hD hS (lv_sub hl [3, 4, 5, 6, 0] rfl)
                            · skip
                              refine lv_aload_n hx hb dL_law_662 rfl (lv_at hl 5 rfl) ?_
                              refine lv_iconst (v := 0) hx hb dL_law_663 (by decide) ?_
                              refine va_lald (f := (f_L_step u g (xs (i + (1 : Int32)).toNatClampNeg)).2.2) hx hb hK hP 0 1 rfl rfl (ix_lit (by decide)) dL_law_664 ?_
                              refine lv_iload hx hb dL_law_665 (lv_at hl 0 rfl) ?_
                              refine lv_i2l (v := ((f_X7_step v (xs (i + (1 : Int32)).toNatClampNeg)).1).toInt64) hx hb dL_law_667 rfl ?_
                              refine W.lcmp hx hb dL_law_668 ?_
                              refine lv_if_eq (tgt := 674) hx hb dL_law_669 (by decide) (fun c7 => ?_) (fun c7 => absurd (lg_cmp_same (hR.2.1 c8)) c7)
                              refine lv_goto (tgt := 760) hx hb dL_law_674 (by decide) ?_
                              refine lv_iinc (v := (i + (3 : Int32))) (lv' := [(4, .int (i + (3 : Int32))), (6, .int (f_X7_step v (xs (i + (1 : Int32)).toNatClampNeg)).1), (5, .int (f_L_step u g (xs (i + (1 : Int32)).toNatClampNeg)).1), (0, .ref b), (1, .ref xO), (2, .ref mO), (3, .ref oL)]) hx hb dL_law_760 hl (k := 6) rfl rfl (by decide) rfl (fun ls hl => ?_)
                              refine lv_goto (tgt := 23) hx hb dL_law_763 (by decide) ?_
                              refine W.widen (k := 20 + (j + 1)) (n := 17113 + 6 * (j + 1)) (by omega) (by omega) ?_
                              exact ih (j + 1) (i + (3 : Int32)) (f_L_step u g (xs (i + (1 : Int32)).toNatClampNeg)).2.1 (f_L_step u g (xs (i + (1 : Int32)).toNatClampNeg)).2.2 (f_X7_step v (xs (i + (1 : Int32)).toNatClampNeg)).2 _ _ _ (by omega) (by omega) (by rw [hi]; exact nI_3 j) (hR.2.2) hP hD hS (lv_sub hl [3, 4, 5, 6, 0] rfl)
                          · skip
                            by_cases q11 : (xs (i).toNatClampNeg &&& (15 : Int32)) = 11
                            · refine tb_in (k := 11) (off := 638) (tgt := 677) hx hb dL_law_39 q11 (by decide) (by decide) (by decide) (by decide) ?_
                              refine lv_aload_n hx hb dL_law_677 rfl (lv_at hl 1 rfl) ?_
                              obtain ⟨hPc, hDc, hFc⟩ := xW_X hP hD hS hA
                              have hKc := hK.sub (tys' := [(cI, .int)]) [0] rfl
                              refine va_calll (va_runV (As := []) (rest := []) ⟨hx, hb, hml, hown, hts⟩ (k_X6_cycles l dC dI cI xO pO mS mA dS dA cO iA oA kO fO aO rA H.size u) (cwV 0 hts gL_law_X6_cycles rfl rfl rfl (by decide +kernel) ⟨Nat.le_of_ble_eq_true rfl, Nat.le_of_ble_eq_true rfl⟩) ⟨fun a U g mk q => by obtain ⟨q0, q1, qP, qK, qD⟩ := q; exact ⟨q0, q1, qP, va_K.moved (u := U) (U := U.calling g mk a) (Vm.Alike.refl U.vm) qK, qD⟩, va_recv hKc hPc (ci := 6) (q0 := 0) rfl rfl, fun U hU hW => ⟨rfl, by rw [hU], by rw [hU]; exact hPc, va_K.moved hW.alike hKc, hDc.weaken (fun _ _ _ _ => trivial)⟩⟩ rfl rfl hl.1 rfl (lv_room (Nat.le_of_ble_eq_true rfl)) dL_law_678 ⟨by show 20 + j + 0 ≤ 1055; omega, by show 17113 + 6 * j + 0 ≤ 25371; omega⟩) hS (fun q _ h => hFc q h) hFc (fun r9 u9 t H1 locs ht hvm hw hB hz1 hk1 hS => ?_)
                              obtain ⟨hw1, hw2⟩ := hw
                              have hw1 := hw1.symm
                              have hw2 := hw2.symm
                              subst hw1 hw2
                              obtain ⟨hP1, hK1, hD1⟩ := hB
                              rw [ht] at hP1
                              obtain ⟨hP, hD⟩ := jW_X0 hP hD hk1 hFc hP1 hD1
                              clear hPc hDc hKc hFc hz1 hk1 hP1 hK1 hD1 ht hvm
                              generalize H1 = H at hP hS ⊢
                              refine lv_aload_n hx hb dL_law_681 rfl (lv_at hl 2 rfl) ?_
                              obtain ⟨hPc, hDc, hFc⟩ := xW_M hP hD hS hA
                              have hKc := hK.sub (tys' := [(cI, .int)]) [0] rfl
                              refine va_calll (va_runV (As := []) (rest := [.long (f_X6_cycles u)]) ⟨hx, hb, hml, hown, hts⟩ (k_X7_cycles l dC dI cI mO memA dskA rgA inA outA H.size v) (cwV 0 hts gL_law_X7_cycles rfl rfl rfl (by decide +kernel) ⟨Nat.le_of_ble_eq_true rfl, Nat.le_of_ble_eq_true rfl⟩) ⟨fun a U g mk q => by obtain ⟨q0, q1, qP, qK, qD⟩ := q; exact ⟨q0, q1, qP, va_K.moved (u := U) (U := U.calling g mk a) (Vm.Alike.refl U.vm) qK, qD⟩, va_recv hKc hPc (ci := 7) (q0 := 0) rfl rfl, fun U hU hW => ⟨rfl, by rw [hU], by rw [hU]; exact hPc, va_K.moved hW.alike hKc, hDc.weaken (fun _ _ _ _ => trivial)⟩⟩ rfl rfl hl.1 rfl (lv_room (Nat.le_of_ble_eq_true rfl)) dL_law_682 ⟨by show 20 + j + 0 + 0 ≤ 1055; omega, by show 17113 + 6 * j + 0 + 0 ≤ 25371; omega⟩) hS (fun q _ h => hFc q h) hFc (fun r9 u9 t H1 locs ht hvm hw hB hz1 hk1 hS => ?_)
                              obtain ⟨hw1, hw2⟩ := hw
                              have hw1 := hw1.symm
                              have hw2 := hw2.symm
                              subst hw1 hw2
                              obtain ⟨hP1, hK1, hD1⟩ := hB
                              rw [ht] at hP1
                              obtain ⟨hP, hD⟩ := jW_M hP hD hk1 hFc hP1 hD1
                              clear hPc hDc hKc hFc hz1 hk1 hP1 hK1 hD1 ht hvm
                              generalize H1 = H at hP hS ⊢
                              have hR := R_cycles hj5 hRel
                              refine W.lcmp hx hb dL_law_685 ?_
                              refine lv_if_eq (tgt := 760) hx hb dL_law_686 (by decide) (fun c7 => ?_) (fun c7 => absurd (lg_cmp_same hR.1) c7)
                              refine lv_iinc (v := (i + (3 : Int32))) (lv' := [(4, .int (i + (3 : Int32))), (0, .ref b), (1, .ref xO), (2, .ref mO), (3, .ref oL)]) hx hb dL_law_760 hl (k := 4) rfl rfl (by decide) rfl (fun ls hl => ?_)
                              refine lv_goto (tgt := 23) hx hb dL_law_763 (by decide) ?_
                              refine W.widen (k := 20 + (j + 1)) (n := 17113 + 6 * (j + 1)) (by omega) (by omega) ?_
                              exact ih (j + 1) (i + (3 : Int32)) u g (f_X7_cycles v).2 _ _ _ (by omega) (by omega) (by rw [hi]; exact nI_3 j) (hR.2) hP hD hS (lv_sub hl [1, 2, 3, 4, 0] rfl)
                            · skip
                              by_cases q12 : (xs (i).toNatClampNeg &&& (15 : Int32)) = 12
                              · refine tb_in (k := 12) (off := 652) (tgt := 691) hx hb dL_law_39 q12 (by decide) (by decide) (by decide) (by decide) ?_
                                refine lv_aload_n hx hb dL_law_691 rfl (lv_at hl 1 rfl) ?_
                                refine lv_aload_n hx hb dL_law_692 rfl (lv_at hl 0 rfl) ?_
                                refine lv_iload hx hb dL_law_693 (lv_at hl 4 rfl) ?_
                                refine lv_iconst (v := 1) hx hb dL_law_695 (by decide) ?_
                                refine lv_iadd hx hb dL_law_696 ?_
                                refine va_sld hx hb hX hbl hbA hS ix1 dL_law_697 ?_
                                refine lv_aload_n hx hb dL_law_698 rfl (lv_at hl 3 rfl) ?_
                                obtain ⟨hPc, hDc, hFc⟩ := xW_L hP hD hS hA
                                have hKc := hK.sub (tys' := [(cI, .int), (cJ, .long)]) [0, 1] rfl
                                refine va_calli (vx_runSW (hh := [(0, 9, 12, 13)]) (As := [.ref xO, .int (xs (i + (1 : Int32)).toNatClampNeg), .ref oL]) (rest := []) ⟨hx, hb, hml, hown, hts⟩ (k_L_told l hl0 dC dI cI cJ oL xO pO mS mA dS dA cO iA oA kO fO aO rA H.size u g (xs (i + (1 : Int32)).toNatClampNeg)) (vx_cwSW 3 hts gL_law_L_told rfl rfl rfl (by decide +kernel) ⟨Nat.le_of_ble_eq_true rfl, Nat.le_of_ble_eq_true rfl⟩) ⟨fun a U g mk q => by obtain ⟨q0, q1, qP, qK, qD, qT⟩ := q; exact ⟨q0, q1, qP, va_K.moved (u := U) (U := U.calling g mk a) (Vm.Alike.refl U.vm) qK, qD, qT.calling g mk a⟩, fun U hU hW => ⟨rfl, by rw [hU], by rw [hU]; exact hPc, va_K.moved hW.alike hKc, hDc.weaken (fun _ _ _ _ => trivial), hT.to hS hFc hU hW⟩⟩ rfl rfl hl.1 rfl (lv_room (Nat.le_of_ble_eq_true rfl)) dL_law_699 ⟨by show 20 + j + 1 ≤ 1055; omega, by show 17113 + 6 * j + 6 ≤ 25371; omega⟩) hS (fun q _ h => hFc q h) hFc (fun r9 x9 t H1 locs ht hvm hw hB hz1 hk1 hS => ?_)
                                have hw1 : (f_L_told u g (xs (i + (1 : Int32)).toNatClampNeg)).1 = r9 := (congrArg Prod.fst hw).symm
                                have hw2 : (f_L_told u g (xs (i + (1 : Int32)).toNatClampNeg)).2 = x9 := (congrArg Prod.snd hw).symm
                                subst hw1 hw2
                                clear hw
                                obtain ⟨hP1, hK1, hD1⟩ := hB
                                rw [ht] at hP1
                                obtain ⟨hP, hD⟩ := jW_L hP hD hk1 hFc hP1 hD1
                                clear hPc hDc hKc hFc hz1 hk1 hP1 hK1 hD1 ht hvm
                                generalize H1 = H at hP hS ⊢
                                refine lv_istore (lv' := [(5, .int (f_L_told u g (xs (i + (1 : Int32)).toNatClampNeg)).1), (0, .ref b), (1, .ref xO), (2, .ref mO), (3, .ref oL), (4, .int i)]) hx hb dL_law_702 hl (by decide) rfl (fun ls hl => ?_)
                                refine lv_aload_n hx hb dL_law_704 rfl (lv_at hl 3 rfl) ?_
                                refine lv_aload_n hx hb dL_law_705 rfl (lv_at hl 1 rfl) ?_
                                refine lv_iload hx hb dL_law_706 (lv_at hl 5 rfl) ?_
                                refine lv_iconst (v := 1) hx hb dL_law_708 (by decide) ?_
                                refine lv_iadd hx hb dL_law_709 ?_
                                refine va_sld hx hb hX hbl hbA hS ix1 dL_law_710 ?_
                                obtain ⟨hPc, hDc, hFc⟩ := xW_M hP hD hS hA
                                have hKc := hK.sub (tys' := [(cI, .int)]) [0] rfl
                                refine va_calli (va_runV (As := [.int (xs (i + (1 : Int32)).toNatClampNeg)]) (rest := []) ⟨hx, hb, hml, hown, hts⟩ (k_X7_told l dC dI cI mO memA dskA rgA inA outA H.size v (xs (i + (1 : Int32)).toNatClampNeg)) (cwV 1 hts gL_law_X7_told rfl rfl rfl (by decide +kernel) ⟨Nat.le_of_ble_eq_true rfl, Nat.le_of_ble_eq_true rfl⟩) ⟨fun a U g mk q => by obtain ⟨q0, q1, qP, qK, qD⟩ := q; exact ⟨q0, q1, qP, va_K.moved (u := U) (U := U.calling g mk a) (Vm.Alike.refl U.vm) qK, qD⟩, va_recv hKc hPc (ci := 7) (q0 := 0) rfl rfl, fun U hU hW => ⟨rfl, by rw [hU], by rw [hU]; exact hPc, va_K.moved hW.alike hKc, hDc.weaken (fun _ _ _ _ => trivial)⟩⟩ rfl rfl hl.1 rfl (lv_room (Nat.le_of_ble_eq_true rfl)) dL_law_711 ⟨by show 20 + j + 1 + 0 ≤ 1055; omega, by show 17113 + 6 * j + 6 + 0 ≤ 25371; omega⟩) hS (fun q _ h => hFc q h) hFc (fun r9 u9 t H1 locs ht hvm hw hB hz1 hk1 hS => ?_)
                                obtain ⟨hw1, hw2⟩ := hw
                                have hw1 := hw1.symm
                                have hw2 := hw2.symm
                                subst hw1 hw2
                                obtain ⟨hP1, hK1, hD1⟩ := hB
                                rw [ht] at hP1
                                obtain ⟨hP, hD⟩ := jW_M hP hD hk1 hFc hP1 hD1
                                clear hPc hDc hKc hFc hz1 hk1 hP1 hK1 hD1 ht hvm
                                generalize H1 = H at hP hS ⊢
                                refine lv_istore (lv' := [(6, .int (f_X7_told v (xs (i + (1 : Int32)).toNatClampNeg)).1), (5, .int (f_L_told u g (xs (i + (1 : Int32)).toNatClampNeg)).1), (0, .ref b), (1, .ref xO), (2, .ref mO), (3, .ref oL), (4, .int i)]) hx hb dL_law_714 hl (by decide) rfl (fun ls hl => ?_)
                                refine lv_aload_n hx hb dL_law_716 rfl (lv_at hl 4 rfl) ?_
                                obtain ⟨hPc, hDc, hFc⟩ := xW_M hP hD hS hA
                                have hKc := hK.sub (tys' := [(cI, .int)]) [0] rfl
                                refine va_calli (va_runV (As := []) (rest := []) ⟨hx, hb, hml, hown, hts⟩ (k_X7_thrown l dC dI cI mO memA dskA rgA inA outA H.size (f_X7_told v (xs (i + (1 : Int32)).toNatClampNeg)).2) (cwV 0 hts gL_law_X7_thrown rfl rfl rfl (by decide +kernel) ⟨Nat.le_of_ble_eq_true rfl, Nat.le_of_ble_eq_true rfl⟩) ⟨fun a U g mk q => by obtain ⟨q0, q1, qP, qK, qD⟩ := q; exact ⟨q0, q1, qP, va_K.moved (u := U) (U := U.calling g mk a) (Vm.Alike.refl U.vm) qK, qD⟩, va_recv hKc hPc (ci := 7) (q0 := 0) rfl rfl, fun U hU hW => ⟨rfl, by rw [hU], by rw [hU]; exact hPc, va_K.moved hW.alike hKc, hDc.weaken (fun _ _ _ _ => trivial)⟩⟩ rfl rfl hl.1 rfl (lv_room (Nat.le_of_ble_eq_true rfl)) dL_law_717 ⟨by show 20 + j + 1 + 0 + 0 ≤ 1055; omega, by show 17113 + 6 * j + 6 + 0 + 0 ≤ 25371; omega⟩) hS (fun q _ h => hFc q h) hFc (fun r9 u9 t H1 locs ht hvm hw hB hz1 hk1 hS => ?_)
                                obtain ⟨hw1, hw2⟩ := hw
                                have hw1 := hw1.symm
                                have hw2 := hw2.symm
                                subst hw1 hw2
                                obtain ⟨hP1, hK1, hD1⟩ := hB
                                rw [ht] at hP1
                                obtain ⟨hP, hD⟩ := jW_M0 hP hD hk1 hFc hP1 hD1
                                clear hPc hDc hKc hFc hz1 hk1 hP1 hK1 hD1 ht hvm
                                generalize H1 = H at hP hS ⊢
                                refine lv_iload hx hb dL_law_720 (lv_at hl 1 rfl) ?_
                                have hR := R_told (g := g) (a1 := (xs (i + (1 : Int32)).toNatClampNeg)) hj5 hRel
                                refine lv_icmp_eq (tgt := 727) hx hb dL_law_722 (by decide) (fun c9 => ?_) (fun c9 => absurd hR.1 c9)
                                refine lv_iload hx hb dL_law_727 (lv_at hl 1 rfl) ?_
                                refine lv_if_ne (tgt := 744) hx hb dL_law_729 (by decide) (fun c8 => ?_) (fun c8 => ?_)
                                · skip
                                  refine lv_goto (tgt := 760) hx hb dL_law_744 (by decide) ?_
                                  refine lv_iinc (v := (i + (3 : Int32))) (lv' := [(4, .int (i + (3 : Int32))), (6, .int (f_X7_told v (xs (i + (1 : Int32)).toNatClampNeg)).1), (5, .int (f_L_told u g (xs (i + (1 : Int32)).toNatClampNeg)).1), (0, .ref b), (1, .ref xO), (2, .ref mO), (3, .ref oL)]) hx hb dL_law_760 hl (k := 6) rfl rfl (by decide) rfl (fun ls hl => ?_)
                                  refine lv_goto (tgt := 23) hx hb dL_law_763 (by decide) ?_
                                  refine W.widen (k := 20 + (j + 1)) (n := 17113 + 6 * (j + 1)) (by omega) (by omega) ?_
                                  exact ih (j + 1) (i + (3 : Int32)) (f_L_told u g (xs (i + (1 : Int32)).toNatClampNeg)).2.1 (f_L_told u g (xs (i + (1 : Int32)).toNatClampNeg)).2.2 (f_X7_told v (xs (i + (1 : Int32)).toNatClampNeg)).2 _ _ _ (by omega) (by omega) (by rw [hi]; exact nI_3 j) (hR.2.2) hP hD hS (lv_sub hl [3, 4, 5, 6, 0] rfl)
                                · skip
                                  refine lv_aload_n hx hb dL_law_732 rfl (lv_at hl 5 rfl) ?_
                                  refine lv_iconst (v := 0) hx hb dL_law_733 (by decide) ?_
                                  refine va_lald (f := (f_L_told u g (xs (i + (1 : Int32)).toNatClampNeg)).2.2) hx hb hK hP 0 1 rfl rfl (ix_lit (by decide)) dL_law_734 ?_
                                  refine lv_iload hx hb dL_law_735 (lv_at hl 0 rfl) ?_
                                  refine lv_i2l (v := ((f_X7_told v (xs (i + (1 : Int32)).toNatClampNeg)).1).toInt64) hx hb dL_law_737 rfl ?_
                                  refine W.lcmp hx hb dL_law_738 ?_
                                  refine lv_if_eq (tgt := 744) hx hb dL_law_739 (by decide) (fun c7 => ?_) (fun c7 => absurd (lg_cmp_same (hR.2.1 c8)) c7)
                                  refine lv_goto (tgt := 760) hx hb dL_law_744 (by decide) ?_
                                  refine lv_iinc (v := (i + (3 : Int32))) (lv' := [(4, .int (i + (3 : Int32))), (6, .int (f_X7_told v (xs (i + (1 : Int32)).toNatClampNeg)).1), (5, .int (f_L_told u g (xs (i + (1 : Int32)).toNatClampNeg)).1), (0, .ref b), (1, .ref xO), (2, .ref mO), (3, .ref oL)]) hx hb dL_law_760 hl (k := 6) rfl rfl (by decide) rfl (fun ls hl => ?_)
                                  refine lv_goto (tgt := 23) hx hb dL_law_763 (by decide) ?_
                                  refine W.widen (k := 20 + (j + 1)) (n := 17113 + 6 * (j + 1)) (by omega) (by omega) ?_
                                  exact ih (j + 1) (i + (3 : Int32)) (f_L_told u g (xs (i + (1 : Int32)).toNatClampNeg)).2.1 (f_L_told u g (xs (i + (1 : Int32)).toNatClampNeg)).2.2 (f_X7_told v (xs (i + (1 : Int32)).toNatClampNeg)).2 _ _ _ (by omega) (by omega) (by rw [hi]; exact nI_3 j) (hR.2.2) hP hD hS (lv_sub hl [3, 4, 5, 6, 0] rfl)
                              · skip
                                by_cases q13 : (xs (i).toNatClampNeg &&& (15 : Int32)) = 13
                                · refine tb_in (k := 13) (off := 708) (tgt := 747) hx hb dL_law_39 q13 (by decide) (by decide) (by decide) (by decide) ?_
                                  refine lv_aload_n hx hb dL_law_747 rfl (lv_at hl 1 rfl) ?_
                                  obtain ⟨hPc, hDc, hFc⟩ := xW_X hP hD hS hA
                                  have hKc := hK.sub (tys' := [(cI, .int)]) [0] rfl
                                  refine va_calli (va_runV (As := []) (rest := []) ⟨hx, hb, hml, hown, hts⟩ (k_X6_sum l dC dI cI xO pO mS mA dS dA cO iA oA kO fO aO rA H.size u) (cwV 0 hts gL_law_X6_sum rfl rfl rfl (by decide +kernel) ⟨Nat.le_of_ble_eq_true rfl, Nat.le_of_ble_eq_true rfl⟩) ⟨fun a U g mk q => by obtain ⟨q0, q1, qP, qK, qD⟩ := q; exact ⟨q0, q1, qP, va_K.moved (u := U) (U := U.calling g mk a) (Vm.Alike.refl U.vm) qK, qD⟩, va_recv hKc hPc (ci := 6) (q0 := 0) rfl rfl, fun U hU hW => ⟨rfl, by rw [hU], by rw [hU]; exact hPc, va_K.moved hW.alike hKc, hDc.weaken (fun _ _ _ _ => trivial)⟩⟩ rfl rfl hl.1 rfl (lv_room (Nat.le_of_ble_eq_true rfl)) dL_law_748 ⟨by show 20 + j + 0 ≤ 1055; omega, by show 17113 + 6 * j + 0 ≤ 25371; omega⟩) hS (fun q _ h => hFc q h) hFc (fun r9 u9 t H1 locs ht hvm hw hB hz1 hk1 hS => ?_)
                                  obtain ⟨hw1, hw2⟩ := hw
                                  have hw1 := hw1.symm
                                  have hw2 := hw2.symm
                                  subst hw1 hw2
                                  obtain ⟨hP1, hK1, hD1⟩ := hB
                                  rw [ht] at hP1
                                  obtain ⟨hP, hD⟩ := jW_X0 hP hD hk1 hFc hP1 hD1
                                  clear hPc hDc hKc hFc hz1 hk1 hP1 hK1 hD1 ht hvm
                                  generalize H1 = H at hP hS ⊢
                                  refine lv_aload_n hx hb dL_law_751 rfl (lv_at hl 2 rfl) ?_
                                  obtain ⟨hPc, hDc, hFc⟩ := xW_M hP hD hS hA
                                  have hKc := hK.sub (tys' := [(cI, .int)]) [0] rfl
                                  refine va_calli (va_runV (As := []) (rest := [.int (f_X6_sum u)]) ⟨hx, hb, hml, hown, hts⟩ (k_X7_sum l dC dI cI mO memA dskA rgA inA outA H.size v) (cwV 0 hts gL_law_X7_sum rfl rfl rfl (by decide +kernel) ⟨Nat.le_of_ble_eq_true rfl, Nat.le_of_ble_eq_true rfl⟩) ⟨fun a U g mk q => by obtain ⟨q0, q1, qP, qK, qD⟩ := q; exact ⟨q0, q1, qP, va_K.moved (u := U) (U := U.calling g mk a) (Vm.Alike.refl U.vm) qK, qD⟩, va_recv hKc hPc (ci := 7) (q0 := 0) rfl rfl, fun U hU hW => ⟨rfl, by rw [hU], by rw [hU]; exact hPc, va_K.moved hW.alike hKc, hDc.weaken (fun _ _ _ _ => trivial)⟩⟩ rfl rfl hl.1 rfl (lv_room (Nat.le_of_ble_eq_true rfl)) dL_law_752 ⟨by show 20 + j + 0 + 0 ≤ 1055; omega, by show 17113 + 6 * j + 0 + 0 ≤ 25371; omega⟩) hS (fun q _ h => hFc q h) hFc (fun r9 u9 t H1 locs ht hvm hw hB hz1 hk1 hS => ?_)
                                  obtain ⟨hw1, hw2⟩ := hw
                                  have hw1 := hw1.symm
                                  have hw2 := hw2.symm
                                  subst hw1 hw2
                                  obtain ⟨hP1, hK1, hD1⟩ := hB
                                  rw [ht] at hP1
                                  obtain ⟨hP, hD⟩ := jW_M hP hD hk1 hFc hP1 hD1
                                  clear hPc hDc hKc hFc hz1 hk1 hP1 hK1 hD1 ht hvm
                                  generalize H1 = H at hP hS ⊢
                                  have hR := R_sum hj5 hRel
                                  refine lv_icmp_eq (tgt := 760) hx hb dL_law_755 (by decide) (fun c9 => ?_) (fun c9 => absurd hR.1 c9)
                                  refine lv_iinc (v := (i + (3 : Int32))) (lv' := [(4, .int (i + (3 : Int32))), (0, .ref b), (1, .ref xO), (2, .ref mO), (3, .ref oL)]) hx hb dL_law_760 hl (k := 4) rfl rfl (by decide) rfl (fun ls hl => ?_)
                                  refine lv_goto (tgt := 23) hx hb dL_law_763 (by decide) ?_
                                  refine W.widen (k := 20 + (j + 1)) (n := 17113 + 6 * (j + 1)) (by omega) (by omega) ?_
                                  exact ih (j + 1) (i + (3 : Int32)) u g (f_X7_sum v).2 _ _ _ (by omega) (by omega) (by rw [hi]; exact nI_3 j) (hR.2) hP hD hS (lv_sub hl [1, 2, 3, 4, 0] rfl)
                                · skip
                                  refine lv_tableOut (tgt := 760) hx hb dL_law_39 (by have r0 := lv_neT q0 (a := 0) (by decide); have r1 := lv_neT q1 (a := 1) (by decide); have r2 := lv_neT q2 (a := 2) (by decide); have r3 := lv_neT q3 (a := 3) (by decide); have r4 := lv_neT q4 (a := 4) (by decide); have r5 := lv_neT q5 (a := 5) (by decide); have r6 := lv_neT q6 (a := 6) (by decide); have r7 := lv_neT q7 (a := 7) (by decide); have r8 := lv_neT q8 (a := 8) (by decide); have r9 := lv_neT q9 (a := 9) (by decide); have r10 := lv_neT q10 (a := 10) (by decide); have r11 := lv_neT q11 (a := 11) (by decide); have r12 := lv_neT q12 (a := 12) (by decide); have r13 := lv_neT q13 (a := 13) (by decide); omega) (by decide) ?_
                                  refine lv_iinc (v := (i + (3 : Int32))) (lv' := [(4, .int (i + (3 : Int32))), (0, .ref b), (1, .ref xO), (2, .ref mO), (3, .ref oL)]) hx hb dL_law_760 hl (k := 4) rfl rfl (by decide) rfl (fun ls hl => ?_)
                                  refine lv_goto (tgt := 23) hx hb dL_law_763 (by decide) ?_
                                  refine W.widen (k := 20 + (j + 1)) (n := 17113 + 6 * (j + 1)) (by omega) (by omega) ?_
                                  exact ih (j + 1) (i + (3 : Int32)) u g v _ _ _ (by omega) (by omega) (by rw [hi]; exact nI_3 j) (R_up hRel) hP hD hS (lv_sub hl [1, 2, 3, 4, 0] rfl)
