def bt (x : Int32) (i : Nat) : Bool := x.toBitVec.getLsbD i
theorem b_ext {x y : Int32} (h : ∀ i, i < 32 → bt x i = bt y i) : x = y := Int32.toBitVec_inj.mp (BitVec.eq_of_getLsbD_eq (fun i hi => h i hi))
theorem b_or (x y : Int32) (i : Nat) : bt (x ||| y) i = (bt x i || bt y i) := by unfold bt; rw [Int32.toBitVec_or, BitVec.getLsbD_or]
theorem b_and (x y : Int32) (i : Nat) : bt (x &&& y) i = (bt x i && bt y i) := by unfold bt; rw [Int32.toBitVec_and, BitVec.getLsbD_and]
theorem b_xor (x y : Int32) (i : Nat) : bt (x ^^^ y) i = (bt x i ^^ bt y i) := by unfold bt; rw [Int32.toBitVec_xor, BitVec.getLsbD_xor]
theorem b_big {x : Int32} {i : Nat} (h : 32 ≤ i) : bt x i = false := BitVec.getLsbD_of_ge _ _ h
theorem b_255 (i : Nat) : bt 255 i = decide (i < 8) := by
  rcases Nat.lt_or_ge i 32 with h | h
  · exact (by decide +kernel : ∀ i, i < 32 → bt 255 i = decide (i < 8)) i h
  · rw [b_big h, decide_eq_false (by omega)]
theorem b_65535 (i : Nat) : bt 65535 i = decide (i < 16) := by
  rcases Nat.lt_or_ge i 32 with h | h
  · exact (by decide +kernel : ∀ i, i < 32 → bt 65535 i = decide (i < 16)) i h
  · rw [b_big h, decide_eq_false (by omega)]
theorem b_m1 : ∀ i, i < 32 → bt (-1) i = true := by decide +kernel
theorem b_0 (i : Nat) : bt 0 i = false := BitVec.getLsbD_zero
theorem s_l : ∀ n, n < 32 → ((nI n &&& 31).toBitVec.smod 32).toNat = n := by decide +kernel
theorem s_u : ∀ n, n < 32 → (((nI n).toUInt32 &&& Int32.toUInt32 31).toBitVec % 32).toNat = n := by decide +kernel
theorem b_shl (n : Nat) (hn : n < 32) (x : Int32) {i : Nat} (hi : i < 32) : bt (x <<< (nI n &&& 31)) i = (decide (n ≤ i) && bt x (i - n)) := by
  unfold bt
  rw [Int32.toBitVec_shiftLeft]
  show (x.toBitVec <<< ((nI n &&& 31).toBitVec.smod 32).toNat).getLsbD i = _
  rw [s_l n hn, BitVec.getLsbD_shiftLeft]
  rcases Nat.lt_or_ge i n with h | h
  · simp [h, Nat.not_le.mpr h]
  · simp [hi, h, Nat.not_lt.mpr h]
theorem b_ushr (n : Nat) (hn : n < 32) (x : Int32) (i : Nat) : bt ((x.toUInt32 >>> ((nI n).toUInt32 &&& Int32.toUInt32 31)).toInt32) i = bt x (n + i) := by
  show (x.toUInt32 >>> ((nI n).toUInt32 &&& Int32.toUInt32 31)).toBitVec.getLsbD i = x.toUInt32.toBitVec.getLsbD (n + i)
  rw [UInt32.toBitVec_shiftRight]
  show (x.toUInt32.toBitVec >>> (((nI n).toUInt32 &&& Int32.toUInt32 31).toBitVec % 32).toNat).getLsbD i = _
  rw [s_u n hn, BitVec.getLsbD_ushiftRight]
theorem b_sshr (n : Nat) (hn : n < 32) (x : Int32) {i : Nat} (hi : i < 32) : bt (x >>> (nI n &&& 31)) i = if n + i < 32 then bt x (n + i) else bt x 31 := by
  unfold bt
  rw [Int32.toBitVec_shiftRight]
  show (x.toBitVec.sshiftRight ((nI n &&& 31).toBitVec.smod 32).toNat).getLsbD i = _
  rw [s_l n hn, BitVec.getLsbD_sshiftRight, BitVec.msb_eq_getLsbD_last]
  simp [hi]
theorem b_shl8 (x : Int32) {i : Nat} (hi : i < 32) : bt (x <<< ((8 : Int32) &&& 31)) i = (decide (8 ≤ i) && bt x (i - 8)) := b_shl 8 (by omega) x hi
theorem b_shl16 (x : Int32) {i : Nat} (hi : i < 32) : bt (x <<< ((16 : Int32) &&& 31)) i = (decide (16 ≤ i) && bt x (i - 16)) := b_shl 16 (by omega) x hi
theorem b_shl24 (x : Int32) {i : Nat} (hi : i < 32) : bt (x <<< ((24 : Int32) &&& 31)) i = (decide (24 ≤ i) && bt x (i - 24)) := b_shl 24 (by omega) x hi
theorem b_sshr8 (x : Int32) {i : Nat} (hi : i < 32) : bt (x >>> ((8 : Int32) &&& 31)) i = if 8 + i < 32 then bt x (8 + i) else bt x 31 := b_sshr 8 (by omega) x hi
/-! ===== nI under and, xor, >>>, one bit, 65535 ===== -/
theorem nx_and (a b : Nat) : nI a &&& nI b = nI (a &&& b) := by
  apply Int32.toBitVec_inj.1
  show BitVec.ofNat 32 a &&& BitVec.ofNat 32 b = BitVec.ofNat 32 (a &&& b)
  apply BitVec.eq_of_getLsbD_eq
  intro i hi
  simp [hi]
theorem nx_xor (a b : Nat) : nI a ^^^ nI b = nI (a ^^^ b) := by
  apply Int32.toBitVec_inj.1
  show BitVec.ofNat 32 a ^^^ BitVec.ofNat 32 b = BitVec.ofNat 32 (a ^^^ b)
  apply BitVec.eq_of_getLsbD_eq
  intro i hi
  simp [hi]
theorem nx_cnt : ∀ j : Fin 32, (UInt32.ofNat j.val &&& Int32.toUInt32 31).toNat % 32 = j.val := by decide +kernel
theorem nx_ush {k j : Nat} (hk : k < 65536) (hj : j < 32) : ((nI k).toUInt32 >>> ((nI j).toUInt32 &&& Int32.toUInt32 31)).toInt32 = nI (k >>> j) := by
  have hs : k >>> j ≤ k := by
    rw [Nat.shiftRight_eq_div_pow]
    exact Nat.div_le_self _ _
  have e2 : UInt32.ofNat k >>> (UInt32.ofNat j &&& Int32.toUInt32 31) = UInt32.ofNat (k >>> j) := by
    apply UInt32.toNat_inj.1
    have h1 : (UInt32.ofNat k).toNat = k := Nat.mod_eq_of_lt (by omega)
    have h2 : (UInt32.ofNat (k >>> j)).toNat = k >>> j := Nat.mod_eq_of_lt (by omega)
    rw [UInt32.toNat_shiftRight, nx_cnt ⟨j, hj⟩, h1, h2]
  show (UInt32.ofNat k >>> (UInt32.ofNat j &&& Int32.toUInt32 31)).toInt32 = _
  rw [e2]
  rfl
theorem nx_bit {k j : Nat} (hk : k < 65536) (hj : j < 16) : (((nI k).toUInt32 >>> ((nI j).toUInt32 &&& Int32.toUInt32 31)).toInt32 &&& 1) = 0 ↔ k.testBit j = false := by
  rw [nx_ush hk (by omega)]
  show nI (k >>> j) &&& nI 1 = 0 ↔ _
  rw [nx_and, Nat.and_one_is_mod, ← nI_0, nI_eq (by omega) (by omega), Nat.testBit_eq_decide_div_mod_eq, Nat.shiftRight_eq_div_pow, decide_eq_false_iff_not]
  generalize k / 2 ^ j = z
  omega
theorem nx_mod (k : Nat) : nI k &&& 65535 = nI (k % 65536) := by
  show nI k &&& nI 65535 = _
  rw [nx_and, show (65535 : Nat) = 2 ^ 16 - 1 from rfl, Nat.and_two_pow_sub_one_eq_mod]
theorem nx_m16 {k : Nat} (h : k < 65536) : nI k &&& 65535 = nI k := by rw [nx_mod, Nat.mod_eq_of_lt h]
theorem nx_mask (x : Int32) : ∃ k, k < 65536 ∧ x &&& 65535 = nI k := by
  have e : x = nI x.toBitVec.toNat := by
    apply Int32.toBitVec_inj.1
    show x.toBitVec = BitVec.ofNat 32 x.toBitVec.toNat
    simp
  refine ⟨x.toBitVec.toNat % 65536, Nat.mod_lt _ (by omega), ?_⟩
  rw [← nx_mod, ← e]
theorem st_off (x : Int32) : ¬ (((x &&& 6) ||| 2) &&& 1) = 1 := by
  have h : (((x &&& 6) ||| 2) &&& 1) = 0 := by
    refine b_ext (fun i hi => ?_)
    rw [b_and, b_or, b_and, b_0]
    rcases (show i = 0 ∨ (1 ≤ i) by omega) with rfl | h1
    · rw [show bt 6 0 = false from by decide, show bt 2 0 = false from by decide]; simp
    · have h2 : bt 1 i = false := by
        have : ∀ k, k < 32 → 1 ≤ k → bt 1 k = false := by decide
        exact this i hi h1
      rw [h2]; simp
  rw [h]
  decide
theorem mv_fin {w : MW} {a b : Nat} (ha : a < 64) (hb : b < 64) (h1 : gMW_frm w = nI (64 * a)) (h2 : gMW_mov w = nI b + 1) (h3 : ¬ gMW_mov w = 64) : mv_ok w := by
  intro _
  rw [h2, nI_1] at h3
  have : ¬ b + 1 = 64 := fun z => h3 (by rw [z]; rfl)
  exact ⟨a, b + 1, ha, by omega, h1, by rw [h2, nI_1]⟩
theorem mv_step {u : MW} {x : Int32} (h : ∃ i j : Nat, i < 64 ∧ j < 64 ∧ gMW_frm u = nI (64 * i) ∧ gMW_mov u = nI j) : mv_ok (f_X7_moveOne (sMW_due u x)) := by
  obtain ⟨a, b, ha, hb, h1, h2⟩ := h
  unfold f_X7_moveOne
  repeat' split
  all_goals first | exact fun z => absurd z (st_off _) | exact mv_fin ha hb h1 (by show gMW_mov u + 1 = _; rw [h2]) (by assumption)

/-- the reference's loop over the bytes that are due -/
def passL : Nat → MW → MW
  | 0, u => u
  | n + 1, u => if ((gMW_st u) &&& 1) = 1 then (if (gMW_due u) < 12 then u else passL n (f_X7_moveOne (sMW_due u ((gMW_due u) - (12 : Int32))))) else u
theorem passL_0 {n : Nat} {u : MW} (h : ¬ ((gMW_st u) &&& 1) = 1) : passL (n + 1) u = u := if_neg h
theorem passL_1 {n : Nat} {u : MW} (h : ((gMW_st u) &&& 1) = 1) (h2 : (gMW_due u) < 12) : passL (n + 1) u = u := by
  show (if _ then _ else _) = _
  rw [if_pos h, if_pos h2]
theorem passL_2 {n : Nat} {u : MW} (h : ((gMW_st u) &&& 1) = 1) (h2 : ¬ (gMW_due u) < 12) : passL (n + 1) u = passL n (f_X7_moveOne (sMW_due u ((gMW_due u) - (12 : Int32)))) := by
  show (if _ then _ else _) = _
  rw [if_pos h, if_neg h2]
theorem due12 {x : Int32} (h : ¬ x < 12) : (x - 12).toNatClampNeg + 12 = x.toNatClampNeg := by
  obtain ⟨k, hk, rfl⟩ := nI_of (x := x) (fun z => h (Int32.lt_trans z (by decide)))
  have h1 : ¬ k < 12 := fun z => h (nI_lt z (by decide))
  rw [show (12 : Int32) = nI 12 from by decide, pk_sub (by omega), nI_clamp (by omega), nI_clamp hk]
  omega
theorem mv_due (u : MW) (x : Int32) : gMW_due (f_X7_moveOne (sMW_due u x)) = x := by
  unfold f_X7_moveOne
  repeat (first | split | rfl)
def f_X7_pass (u : MW) : MW := 
  if ((gMW_st (sMW_cyc u ((gMW_cyc u) + ((gMW_spent u) : Int32).toInt64))) &&& 1) = 1 then
    (if (bI (gMW_fresh (sMW_cyc u ((gMW_cyc u) + ((gMW_spent u) : Int32).toInt64)))) = 0 then (sMW_fresh (passL (((gMW_due (sMW_cyc u ((gMW_cyc u) + ((gMW_spent u) : Int32).toInt64))) + (gMW_spent (sMW_cyc u ((gMW_cyc u) + ((gMW_spent u) : Int32).toInt64)))).toNatClampNeg + 1) (sMW_due (sMW_cyc u ((gMW_cyc u) + ((gMW_spent u) : Int32).toInt64)) ((gMW_due (sMW_cyc u ((gMW_cyc u) + ((gMW_spent u) : Int32).toInt64))) + (gMW_spent (sMW_cyc u ((gMW_cyc u) + ((gMW_spent u) : Int32).toInt64)))))) false) else (sMW_fresh (sMW_cyc u ((gMW_cyc u) + ((gMW_spent u) : Int32).toInt64)) false))
  else (sMW_fresh (sMW_cyc u ((gMW_cyc u) + ((gMW_spent u) : Int32).toInt64)) false)
theorem qX7_pass_0 : Cond.fieldLink RX7 137 "DiskMachineModel" "cycles" "J" ∈ wsX7_pass := by decide +kernel
theorem qX7_pass_1 : Cond.fieldLink RX7 141 "DiskMachineModel" "spent" "I" ∈ wsX7_pass := by decide +kernel
theorem qX7_pass_2 : Cond.fieldLink RX7 106 "DiskMachineModel" "state" "I" ∈ wsX7_pass := by decide +kernel
theorem qX7_pass_3 : Cond.fieldLink RX7 134 "DiskMachineModel" "fresh" "Z" ∈ wsX7_pass := by decide +kernel
theorem qX7_pass_4 : Cond.fieldLink RX7 131 "DiskMachineModel" "due" "I" ∈ wsX7_pass := by decide +kernel
theorem iX7_pass_X7 : ∀ w ∈ wsX70, w ∈ wsX7_pass := by decide +kernel
set_option maxHeartbeats 4000000 in
set_option maxRecDepth 100000 in
theorem k_X7_pass (l : Launch) (dC : Nat → ClassId) (dI : Nat → Nat → Nat) (cI : ClassId) (mO memA dskA rgA inA outA : Nat) (sz : Nat) (u : MW) (hB : mv_ok u) : Met l yX7_pass wsX7_pass ({ frames := 2, cells := 0, slots := 0, locals := 42 }) (va_Pc [.ref mO] (wB dC dI [(cI, .int)] sz (wM cI mO memA dskA rgA inA outA u))) (va_Qv (fun u' : MW => u' = (f_X7_pass u)) (fun u' => wE dC dI [(cI, .int)] (va_A (wM cI mO memA dskA rgA inA outA u) sz) (wM cI mO memA dskA rgA inA outA u')) (va_A (wM cI mO memA dskA rgA inA outA u) sz)) 0 0 (va_A (wM cI mO memA dskA rgA inA outA u) sz) := by
  refine Met.ofW (cc := cX7_pass) (maxL := 1) (ret := none) (by decide) rfl ?_
  intro p e s m args below meth c s₁ B hml hv
  obtain ⟨rfl, hsz, hP, hK, hD0⟩ := hv
  have hx := B.exec
  have hb := B.bytes
  have hr := B.returns
  have hts := atoms_spec (ws := wsX7_pass) B.pre
  have hown : s.vm.findClass RX7 = some m.cls := findClass_of_methodNamed B.named
  have hlocks := B.notSynchronized
  subst hsz
  have hD := hD0.self (sz := s.heap.size)
  generalize hAe : va_A (wM cI mO memA dskA rgA inA outA u) s.heap.size = A at hD ⊢
  have hA : ∀ q : Nat, s.heap.size ≤ q → A q := fun q h => by rw [← hAe]; exact Or.inr h
  have hS : va_S A s.heap s.heap [] := va_S.rf
  have hP : va_P (dC, dI) vwCl (wM cI mO memA dskA rgA inA outA u) s.heap := hP
  clear hAe hD0
  have hl := lv_entry ([.ref mO]) (n := 1) (Nat.le_of_ble_eq_true rfl)
  rw [lg_entry_eq]
  generalize (lg_sl ([.ref mO]) ++ List.replicate (1 - (lg_sl ([.ref mO])).length) Slot.unset).toArray = ls at hl ⊢
  have hl : lv_has ls 1 [(0, .ref mO)] := hl
  refine jn_H hP hS (fun H locs hP hS => ?_)
  refine lv_aload_n hx hb dX7_pass_0 rfl (lv_at hl 0 rfl) ?_
  refine lv_aload_n hx hb dX7_pass_1 rfl (lv_at hl 0 rfl) ?_
  refine va_get (D := (dC, dI)) (ci := 7) (v := .long (gMW_cyc u)) (C := RX7) (T := TX7) (N := 30) hx hb hts iX7_pass_X7 hown hK hP 0 rfl rfl 15 (by decide) (hts _ qX7_pass_0) (fun _ h9 => h9) rfl dX7_pass_2 ?_
  refine lv_aload_n hx hb dX7_pass_5 rfl (lv_at hl 0 rfl) ?_
  refine va_get (D := (dC, dI)) (ci := 7) (v := .int (gMW_spent u)) (C := RX7) (T := TX7) (N := 30) hx hb hts iX7_pass_X7 hown hK hP 0 rfl rfl 16 (by decide) (hts _ qX7_pass_1) (fun _ h9 => h9) rfl dX7_pass_6 ?_
  refine lv_i2l (v := ((gMW_spent u) : Int32).toInt64) hx hb dX7_pass_9 rfl ?_
  refine lv_ladd hx hb dX7_pass_10 ?_
  refine va_put (D := (dC, dI)) (ci := 7) (v := .long ((gMW_cyc u) + ((gMW_spent u) : Int32).toInt64)) (ty := .long) (C := RX7) (T := TX7) (N := 30) hx hb hts iX7_pass_X7 tyX7 tyX7_ok nmX7 hown hK hP hD hS 0 rfl rfl 15 (by decide) (hts _ qX7_pass_0) (fun _ h9 => h9) rfl (by decide +kernel) rfl rfl (Nat.le_of_ble_eq_true rfl) dX7_pass_11 (fun H locs hP hD hS => ?_)
  obtain ⟨hP, hD⟩ := pM_cyc hP hD
  refine lv_aload_n hx hb dX7_pass_14 rfl (lv_at hl 0 rfl) ?_
  refine va_get (D := (dC, dI)) (ci := 7) (v := .int (gMW_st (sMW_cyc u ((gMW_cyc u) + ((gMW_spent u) : Int32).toInt64)))) (C := RX7) (T := TX7) (N := 30) hx hb hts iX7_pass_X7 hown hK hP 0 rfl rfl 24 (by decide) (hts _ qX7_pass_2) (fun _ h9 => h9) rfl dX7_pass_15 ?_
  refine lv_iconst (v := 1) hx hb dX7_pass_18 (by decide) ?_
  refine lv_iand hx hb dX7_pass_19 ?_
  refine lv_iconst (v := 1) hx hb dX7_pass_20 (by decide) ?_
  refine lv_icmp_ne (tgt := 81) hx hb dX7_pass_21 (by decide) (fun c1 => ?_) (fun c1 => ?_)
  · skip
    refine lv_aload_n hx hb dX7_pass_81 rfl (lv_at hl 0 rfl) ?_
    refine lv_iconst (v := 0) hx hb dX7_pass_82 (by decide) ?_
    refine va_put (D := (dC, dI)) (ci := 7) (v := .int (bI false)) (ty := .boolean) (C := RX7) (T := TX7) (N := 30) hx hb hts iX7_pass_X7 tyX7 tyX7_ok nmX7 hown hK hP hD hS 0 rfl rfl 29 (by decide) (hts _ qX7_pass_3) (fun _ h9 => h9) rfl (by decide +kernel) (bI_nar false) (bI_fit false) (Nat.le_of_ble_eq_true rfl) dX7_pass_83 (fun H locs hP hD hS => ?_)
    obtain ⟨hP, hD⟩ := pM_fresh hP hD
    exact W.vret hx hb hr (fun t ht hW => ⟨⟨(sMW_fresh (sMW_cyc u ((gMW_cyc u) + ((gMW_spent u) : Int32).toInt64)) false), rfl, (by simp only [f_X7_pass, if_neg c1]), by rw [ht]; exact hP, va_K.moved hW.alike hK, hD⟩, hS.F ht⟩) hS.2.2 dX7_pass_86
  · skip
    refine lv_aload_n hx hb dX7_pass_24 rfl (lv_at hl 0 rfl) ?_
    refine va_get (D := (dC, dI)) (ci := 7) (v := .int (bI (gMW_fresh (sMW_cyc u ((gMW_cyc u) + ((gMW_spent u) : Int32).toInt64))))) (C := RX7) (T := TX7) (N := 30) hx hb hts iX7_pass_X7 hown hK hP 0 rfl rfl 29 (by decide) (hts _ qX7_pass_3) (fun _ h9 => h9) rfl dX7_pass_25 ?_
    refine lv_if_ne (tgt := 81) hx hb dX7_pass_28 (by decide) (fun c2 => ?_) (fun c2 => ?_)
    · skip
      refine lv_aload_n hx hb dX7_pass_81 rfl (lv_at hl 0 rfl) ?_
      refine lv_iconst (v := 0) hx hb dX7_pass_82 (by decide) ?_
      refine va_put (D := (dC, dI)) (ci := 7) (v := .int (bI false)) (ty := .boolean) (C := RX7) (T := TX7) (N := 30) hx hb hts iX7_pass_X7 tyX7 tyX7_ok nmX7 hown hK hP hD hS 0 rfl rfl 29 (by decide) (hts _ qX7_pass_3) (fun _ h9 => h9) rfl (by decide +kernel) (bI_nar false) (bI_fit false) (Nat.le_of_ble_eq_true rfl) dX7_pass_83 (fun H locs hP hD hS => ?_)
      obtain ⟨hP, hD⟩ := pM_fresh hP hD
      exact W.vret hx hb hr (fun t ht hW => ⟨⟨(sMW_fresh (sMW_cyc u ((gMW_cyc u) + ((gMW_spent u) : Int32).toInt64)) false), rfl, (by simp only [f_X7_pass, if_pos c1, if_neg c2]), by rw [ht]; exact hP, va_K.moved hW.alike hK, hD⟩, hS.F ht⟩) hS.2.2 dX7_pass_86
    · skip
      refine lv_aload_n hx hb dX7_pass_31 rfl (lv_at hl 0 rfl) ?_
      refine lv_aload_n hx hb dX7_pass_32 rfl (lv_at hl 0 rfl) ?_
      refine va_get (D := (dC, dI)) (ci := 7) (v := .int (gMW_due (sMW_cyc u ((gMW_cyc u) + ((gMW_spent u) : Int32).toInt64)))) (C := RX7) (T := TX7) (N := 30) hx hb hts iX7_pass_X7 hown hK hP 0 rfl rfl 28 (by decide) (hts _ qX7_pass_4) (fun _ h9 => h9) rfl dX7_pass_33 ?_
      refine lv_aload_n hx hb dX7_pass_36 rfl (lv_at hl 0 rfl) ?_
      refine va_get (D := (dC, dI)) (ci := 7) (v := .int (gMW_spent (sMW_cyc u ((gMW_cyc u) + ((gMW_spent u) : Int32).toInt64)))) (C := RX7) (T := TX7) (N := 30) hx hb hts iX7_pass_X7 hown hK hP 0 rfl rfl 16 (by decide) (hts _ qX7_pass_1) (fun _ h9 => h9) rfl dX7_pass_37 ?_
      refine lv_iadd hx hb dX7_pass_40 ?_
      refine va_put (D := (dC, dI)) (ci := 7) (v := .int ((gMW_due (sMW_cyc u ((gMW_cyc u) + ((gMW_spent u) : Int32).toInt64))) + (gMW_spent (sMW_cyc u ((gMW_cyc u) + ((gMW_spent u) : Int32).toInt64))))) (ty := .int) (C := RX7) (T := TX7) (N := 30) hx hb hts iX7_pass_X7 tyX7 tyX7_ok nmX7 hown hK hP hD hS 0 rfl rfl 28 (by decide) (hts _ qX7_pass_4) (fun _ h9 => h9) rfl (by decide +kernel) rfl rfl (Nat.le_of_ble_eq_true rfl) dX7_pass_41 (fun H locs hP hD hS => ?_)
      obtain ⟨hP, hD⟩ := pM_due hP hD
      refine jn_lp (D := (dC, dI)) (cl := vwCl) (A := A) (H0 := s.heap) (nL := 1) (σ := MW) 44 (fun x => [(0, .ref mO)]) (fun x => (wM cI mO memA dskA rgA inA outA x)) (fun n x => (gMW_due x).toNatClampNeg < n ∧ passL n x = (passL (((gMW_due (sMW_cyc u ((gMW_cyc u) + ((gMW_spent u) : Int32).toInt64))) + (gMW_spent (sMW_cyc u ((gMW_cyc u) + ((gMW_spent u) : Int32).toInt64)))).toNatClampNeg + 1) (sMW_due (sMW_cyc u ((gMW_cyc u) + ((gMW_spent u) : Int32).toInt64)) ((gMW_due (sMW_cyc u ((gMW_cyc u) + ((gMW_spent u) : Int32).toInt64))) + (gMW_spent (sMW_cyc u ((gMW_cyc u) + ((gMW_spent u) : Int32).toInt64)))))) ∧ mv_ok x) (fun x h => ?_) (fun n ih x H locs ls hI hP hD hS hl => ?_) (fun hloop => ?_)
      · obtain ⟨vv, hx9⟩ : ∃ z, z = x := ⟨_, rfl⟩
        try dsimp only at h
        exact Nat.not_lt_zero _ h.1
      · obtain ⟨vv, hx9⟩ : ∃ z, z = x := ⟨_, rfl⟩
        subst hx9
        try dsimp only at hI
        obtain ⟨hn9, hv9, hb9⟩ := hI
        have hP : va_P (dC, dI) vwCl (wM cI mO memA dskA rgA inA outA vv) H := hP
        have hD : va_D A (wM cI mO memA dskA rgA inA outA vv) := hD
        have hl : lv_has ls 1 [(0, .ref mO)] := hl
        refine lv_aload_n hx hb dX7_pass_44 rfl (lv_at hl 0 rfl) ?_
        refine va_get (D := (dC, dI)) (ci := 7) (v := .int (gMW_st vv)) (C := RX7) (T := TX7) (N := 30) hx hb hts iX7_pass_X7 hown hK hP 0 rfl rfl 24 (by decide) (hts _ qX7_pass_2) (fun _ h9 => h9) rfl dX7_pass_45 ?_
        refine lv_iconst (v := 1) hx hb dX7_pass_48 (by decide) ?_
        refine lv_iand hx hb dX7_pass_49 ?_
        refine lv_iconst (v := 1) hx hb dX7_pass_50 (by decide) ?_
        refine lv_icmp_ne (tgt := 81) hx hb dX7_pass_51 (by decide) (fun c3 => ?_) (fun c3 => ?_)
        · skip
          obtain rfl : vv = (passL (((gMW_due (sMW_cyc u ((gMW_cyc u) + ((gMW_spent u) : Int32).toInt64))) + (gMW_spent (sMW_cyc u ((gMW_cyc u) + ((gMW_spent u) : Int32).toInt64)))).toNatClampNeg + 1) (sMW_due (sMW_cyc u ((gMW_cyc u) + ((gMW_spent u) : Int32).toInt64)) ((gMW_due (sMW_cyc u ((gMW_cyc u) + ((gMW_spent u) : Int32).toInt64))) + (gMW_spent (sMW_cyc u ((gMW_cyc u) + ((gMW_spent u) : Int32).toInt64)))))) := by first | (rw [passL_0 c3] at hv9; exact hv9) | (rw [passL_1 c2 c3] at hv9; exact hv9)
          refine lv_aload_n hx hb dX7_pass_81 rfl (lv_at hl 0 rfl) ?_
          refine lv_iconst (v := 0) hx hb dX7_pass_82 (by decide) ?_
          refine va_put (D := (dC, dI)) (ci := 7) (v := .int (bI false)) (ty := .boolean) (C := RX7) (T := TX7) (N := 30) hx hb hts iX7_pass_X7 tyX7 tyX7_ok nmX7 hown hK hP hD hS 0 rfl rfl 29 (by decide) (hts _ qX7_pass_3) (fun _ h9 => h9) rfl (by decide +kernel) (bI_nar false) (bI_fit false) (Nat.le_of_ble_eq_true rfl) dX7_pass_83 (fun H locs hP hD hS => ?_)
          obtain ⟨hP, hD⟩ := pM_fresh hP hD
          exact W.vret hx hb hr (fun t ht hW => ⟨⟨(sMW_fresh (passL (((gMW_due (sMW_cyc u ((gMW_cyc u) + ((gMW_spent u) : Int32).toInt64))) + (gMW_spent (sMW_cyc u ((gMW_cyc u) + ((gMW_spent u) : Int32).toInt64)))).toNatClampNeg + 1) (sMW_due (sMW_cyc u ((gMW_cyc u) + ((gMW_spent u) : Int32).toInt64)) ((gMW_due (sMW_cyc u ((gMW_cyc u) + ((gMW_spent u) : Int32).toInt64))) + (gMW_spent (sMW_cyc u ((gMW_cyc u) + ((gMW_spent u) : Int32).toInt64)))))) false), rfl, (by simp only [f_X7_pass, if_pos c1, if_pos c2, if_neg c3]), by rw [ht]; exact hP, va_K.moved hW.alike hK, hD⟩, hS.F ht⟩) hS.2.2 dX7_pass_86
        · skip
          refine lv_aload_n hx hb dX7_pass_54 rfl (lv_at hl 0 rfl) ?_
          refine va_get (D := (dC, dI)) (ci := 7) (v := .int (gMW_due vv)) (C := RX7) (T := TX7) (N := 30) hx hb hts iX7_pass_X7 hown hK hP 0 rfl rfl 28 (by decide) (hts _ qX7_pass_4) (fun _ h9 => h9) rfl dX7_pass_55 ?_
          refine lv_bipush (v := 12) hx hb dX7_pass_58 (by decide) ?_
          refine lv_icmp_lt (tgt := 81) hx hb dX7_pass_60 (by decide) (fun c4 => ?_) (fun c4 => ?_)
          · skip
            obtain rfl : vv = (passL (((gMW_due (sMW_cyc u ((gMW_cyc u) + ((gMW_spent u) : Int32).toInt64))) + (gMW_spent (sMW_cyc u ((gMW_cyc u) + ((gMW_spent u) : Int32).toInt64)))).toNatClampNeg + 1) (sMW_due (sMW_cyc u ((gMW_cyc u) + ((gMW_spent u) : Int32).toInt64)) ((gMW_due (sMW_cyc u ((gMW_cyc u) + ((gMW_spent u) : Int32).toInt64))) + (gMW_spent (sMW_cyc u ((gMW_cyc u) + ((gMW_spent u) : Int32).toInt64)))))) := by first | (rw [passL_0 c4] at hv9; exact hv9) | (rw [passL_1 c3 c4] at hv9; exact hv9)
            refine lv_aload_n hx hb dX7_pass_81 rfl (lv_at hl 0 rfl) ?_
            refine lv_iconst (v := 0) hx hb dX7_pass_82 (by decide) ?_
            refine va_put (D := (dC, dI)) (ci := 7) (v := .int (bI false)) (ty := .boolean) (C := RX7) (T := TX7) (N := 30) hx hb hts iX7_pass_X7 tyX7 tyX7_ok nmX7 hown hK hP hD hS 0 rfl rfl 29 (by decide) (hts _ qX7_pass_3) (fun _ h9 => h9) rfl (by decide +kernel) (bI_nar false) (bI_fit false) (Nat.le_of_ble_eq_true rfl) dX7_pass_83 (fun H locs hP hD hS => ?_)
            obtain ⟨hP, hD⟩ := pM_fresh hP hD
            exact W.vret hx hb hr (fun t ht hW => ⟨⟨(sMW_fresh (passL (((gMW_due (sMW_cyc u ((gMW_cyc u) + ((gMW_spent u) : Int32).toInt64))) + (gMW_spent (sMW_cyc u ((gMW_cyc u) + ((gMW_spent u) : Int32).toInt64)))).toNatClampNeg + 1) (sMW_due (sMW_cyc u ((gMW_cyc u) + ((gMW_spent u) : Int32).toInt64)) ((gMW_due (sMW_cyc u ((gMW_cyc u) + ((gMW_spent u) : Int32).toInt64))) + (gMW_spent (sMW_cyc u ((gMW_cyc u) + ((gMW_spent u) : Int32).toInt64)))))) false), rfl, (by simp only [f_X7_pass, if_pos c1, if_pos c2, if_pos c3, if_pos c4]), by rw [ht]; exact hP, va_K.moved hW.alike hK, hD⟩, hS.F ht⟩) hS.2.2 dX7_pass_86
          · skip
            refine lv_aload_n hx hb dX7_pass_63 rfl (lv_at hl 0 rfl) ?_
            refine lv_aload_n hx hb dX7_pass_64 rfl (lv_at hl 0 rfl) ?_
            refine va_get (D := (dC, dI)) (ci := 7) (v := .int (gMW_due vv)) (C := RX7) (T := TX7) (N := 30) hx hb hts iX7_pass_X7 hown hK hP 0 rfl rfl 28 (by decide) (hts _ qX7_pass_4) (fun _ h9 => h9) rfl dX7_pass_65 ?_
            refine lv_bipush (v := 12) hx hb dX7_pass_68 (by decide) ?_
            refine lv_isub hx hb dX7_pass_70 ?_
            refine va_put (D := (dC, dI)) (ci := 7) (v := .int ((gMW_due vv) - (12 : Int32))) (ty := .int) (C := RX7) (T := TX7) (N := 30) hx hb hts iX7_pass_X7 tyX7 tyX7_ok nmX7 hown hK hP hD hS 0 rfl rfl 28 (by decide) (hts _ qX7_pass_4) (fun _ h9 => h9) rfl (by decide +kernel) rfl rfl (Nat.le_of_ble_eq_true rfl) dX7_pass_71 (fun H locs hP hD hS => ?_)
            obtain ⟨hP, hD⟩ := pM_due hP hD
            refine lv_aload_n hx hb dX7_pass_74 rfl (lv_at hl 0 rfl) ?_
            obtain ⟨hPc, hDc, hFc⟩ := xM_M hP hD hS hA
            have hKc := hK.sub (tys' := [(cI, .int)]) [0] rfl
            refine va_callv (va_runV (As := []) (rest := []) ⟨hx, hb, hml, hown, hts⟩ (k_X7_moveOne l dC dI cI mO memA dskA rgA inA outA H.size (sMW_due vv ((gMW_due vv) - (12 : Int32))) (hb9 c3)) (cwV 0 hts gX7_pass_X7_moveOne rfl rfl rfl (by decide +kernel) ⟨Nat.le_of_ble_eq_true rfl, Nat.le_of_ble_eq_true rfl⟩) ⟨fun a U g mk q => by obtain ⟨q0, q1, qP, qK, qD⟩ := q; exact ⟨q0, q1, qP, va_K.moved (u := U) (U := U.calling g mk a) (Vm.Alike.refl U.vm) qK, qD⟩, va_recv hKc hPc (ci := 7) (q0 := 0) rfl rfl, fun U hU hW => ⟨rfl, by rw [hU], by rw [hU]; exact hPc, va_K.moved hW.alike hKc, hDc.weaken (fun _ _ _ _ => trivial)⟩⟩ rfl rfl hl.1 rfl (lv_room (Nat.le_of_ble_eq_true rfl)) dX7_pass_75 ⟨Nat.le_of_ble_eq_true rfl, Nat.le_of_ble_eq_true rfl⟩) hS (fun q _ h => hFc q h) hFc (fun u9 t H1 locs ht hvm hw hB hz1 hk1 hS => ?_)
            subst hw
            obtain ⟨hP1, hK1, hD1⟩ := hB
            rw [ht] at hP1
            obtain ⟨hP, hD⟩ := jM_M hP hD hk1 hFc hP1 hD1
            clear hPc hDc hKc hFc hz1 hk1 hP1 hK1 hD1 ht hvm
            generalize H1 = H at hP hS ⊢
            refine lv_goto (tgt := 44) hx hb dX7_pass_78 (by decide) ?_
            exact ih ((f_X7_moveOne (sMW_due vv ((gMW_due vv) - (12 : Int32))))) _ _ _ (⟨by have z := due12 c4; rw [mv_due]; omega, by rw [← hv9, passL_2 c3 c4], mv_step (hb9 c3)⟩) hP hD hS (lv_sub hl [0] rfl)
      · exact hloop _ ((sMW_due (sMW_cyc u ((gMW_cyc u) + ((gMW_spent u) : Int32).toInt64)) ((gMW_due (sMW_cyc u ((gMW_cyc u) + ((gMW_spent u) : Int32).toInt64))) + (gMW_spent (sMW_cyc u ((gMW_cyc u) + ((gMW_spent u) : Int32).toInt64)))))) _ _ _ (⟨Nat.lt_succ_self _, rfl, hB⟩) hP hD hS (lv_sub hl [0] rfl)
