/-! our own words: booleans, joins, switches, indices -/
def bI : Bool → Int32
  | true => 1
  | false => 0
theorem bI_nar : ∀ b : Bool, narrow .boolean (.int (bI b)) = .int (bI b)
  | true => by decide
  | false => by decide
theorem bI_fit : ∀ b : Bool, fits .boolean (.int (bI b)) = true
  | true => by decide
  | false => by decide
theorem bI_eq0 : ∀ b : Bool, bI b = 0 ↔ b = false
  | true => by decide
  | false => by decide
abbrev wB (dC : Nat → ClassId) (dI : Nat → Nat → Nat) (tys : List (ClassId × FieldType)) (sz : Nat) (ws : va_W) : State → Prop := fun U => U.heap.size = sz ∧ va_P (dC, dI) vwCl ws U.heap ∧ va_K (dC, dI) vwCl tys U ∧ va_D (fun _ => True) ws
abbrev wE (dC : Nat → ClassId) (dI : Nat → Nat → Nat) (tys : List (ClassId × FieldType)) (A : Nat → Prop) (ws : va_W) (t : State) : Prop := va_P (dC, dI) vwCl ws t.heap ∧ va_K (dC, dI) vwCl tys t ∧ va_D A ws
theorem ix_8 (x : Int32) : vp_in (x &&& 7) 8 := pk_andIn x 3 (by decide) (by decide)
theorem ix_256 (x : Int32) : vp_in (x &&& 255) 256 := pk_andIn x 8 (by decide) (by decide)
theorem ix_4096 (x : Int32) : vp_in (x &&& 4095) 4096 := pk_andIn x 12 (by decide) (by decide)
theorem in_cases8 {x : Int32} (h : vp_in x 8) : x = 0 ∨ x = 1 ∨ x = 2 ∨ x = 3 ∨ x = 4 ∨ x = 5 ∨ x = 6 ∨ x = 7 := by
  obtain ⟨j, hj, rfl⟩ := vp_in_of h (by decide)
  rcases (show j = 0 ∨ j = 1 ∨ j = 2 ∨ j = 3 ∨ j = 4 ∨ j = 5 ∨ j = 6 ∨ j = 7 by omega) with rfl | rfl | rfl | rfl | rfl | rfl | rfl | rfl <;> decide
theorem in_cases4 {x : Int32} (h : vp_in x 4) : x = 0 ∨ x = 1 ∨ x = 2 ∨ x = 3 := by
  obtain ⟨j, hj, rfl⟩ := vp_in_of h (by decide)
  rcases (show j = 0 ∨ j = 1 ∨ j = 2 ∨ j = 3 by omega) with rfl | rfl | rfl | rfl <;> decide
theorem in_shr1 {x : Int32} (h : vp_in x 8) : vp_in (x >>> ((1 : Int32) &&& 31)) 4 := by
  rcases in_cases8 h with rfl | rfl | rfl | rfl | rfl | rfl | rfl | rfl <;> decide
theorem in_div2 {x : Int32} (h : vp_in x 8) : vp_in (x / 2) 4 := by
  rcases in_cases8 h with rfl | rfl | rfl | rfl | rfl | rfl | rfl | rfl <;> decide
theorem ix_2p {x : Int32} (h : vp_in x 4) : vp_in (2 * x) 8 := by
  rcases in_cases4 h with rfl | rfl | rfl | rfl <;> decide
theorem ix_2p1 {x : Int32} (h : vp_in x 4) : vp_in ((2 * x) + 1) 8 := by
  rcases in_cases4 h with rfl | rfl | rfl | rfl <;> decide
theorem ix_ring {x y : Int32} (h : ∃ i j : Nat, i < 64 ∧ j ≤ 64 ∧ x = nI i ∧ y = nI j) : vp_in ((x + y) - (x + y) / 64 * 64) 64 := by
  obtain ⟨i, j, hi, hj, rfl, rfl⟩ := h
  rw [nI_add]
  have h1 := pk_rem (a := i + j) (d := 64) (by omega) (by decide) (by decide)
  rw [show (64 : Int32) = nI 64 from by decide, h1]
  exact vp_in_nI (Nat.mod_lt _ (by decide)) (by decide)
theorem ix_fst {x y : Int32} (h : ∃ i j : Nat, i < 64 ∧ j ≤ 64 ∧ x = nI i ∧ y = nI j) : vp_in x 64 := by
  obtain ⟨i, j, hi, hj, rfl, rfl⟩ := h
  exact vp_in_nI hi (by decide)
section OWNROWS
variable {p : Program} {l : Launch} {e : Env} {R : Room} {s : State} {m : MethodId} {args : Array Value} {below : List Frame} {meth : Method} {c : Code} {H : Heap} {locs : List Loc} {cells slots : Nat} {Q : State → Prop}
variable {cc : ByteArray} {pc : Nat} {ls : Array Slot} {rest : List Value} {D : va_G} {cl : List vw_C} {ws : va_W} {A : Nat → Prop} {H0 : Heap} {nL : Nat}
/-- roads that meet at J with one boolean on the stack -/
theorem jn_b {g : JFrame} (J : Nat) (v : Bool) (lv : List (Nat × Value)) (rst : List Value)
    (hj : ∀ (H : Heap) (locs : List Loc) (ls : Array Slot), va_P D cl ws H → va_S A H0 H locs → lv_has ls nL lv → W p l e R s m args below meth c H locs cells slots Q (F0 m J ls (.int (bI v) :: rst)))
    (hm : (∀ (y : Bool) (H : Heap) (locs : List Loc) (ls : Array Slot), y = v → va_P D cl ws H → va_S A H0 H locs → lv_has ls nL lv → W p l e R s m args below meth c H locs cells slots Q (F0 m J ls (.int (bI y) :: rst))) → W p l e R s m args below meth c H locs cells slots Q g) : W p l e R s m args below meth c H locs cells slots Q g :=
  hm (fun y H locs ls hy hP hS hl => by subst hy; exact hj H locs ls hP hS hl)
theorem jn_i {g : JFrame} (J : Nat) (v : Int32) (lv : List (Nat × Value)) (rst : List Value)
    (hj : ∀ (H : Heap) (locs : List Loc) (ls : Array Slot), va_P D cl ws H → va_S A H0 H locs → lv_has ls nL lv → W p l e R s m args below meth c H locs cells slots Q (F0 m J ls (.int v :: rst)))
    (hm : (∀ (y : Int32) (H : Heap) (locs : List Loc) (ls : Array Slot), y = v → va_P D cl ws H → va_S A H0 H locs → lv_has ls nL lv → W p l e R s m args below meth c H locs cells slots Q (F0 m J ls (.int y :: rst))) → W p l e R s m args below meth c H locs cells slots Q g) : W p l e R s m args below meth c H locs cells slots Q g :=
  hm (fun y H locs ls hy hP hS hl => by subst hy; exact hj H locs ls hP hS hl)
theorem tb_in {dflt lo hi : Int} {offs : Array Int} {len : Nat} {x k : Int32} {off : Int} {tgt : Nat} (hexec : p.tables.exec = Jvm.exec) (hb : c.code = cc) (hdg : decode cc pc = .ok (.tableswitch dflt lo hi offs, len)) (hk : x = k) (h1 : ¬ k.toInt < lo) (h2 : ¬ hi < k.toInt) (ho : offs[(k.toInt - lo).toNat]? = some off) (ht : (pc : Int) + off = (tgt : Int))
    (kk : W p l e R s m args below meth c H locs cells slots Q (F0 m tgt ls rest)) : W p l e R s m args below meth c H locs cells slots Q (F0 m pc ls (.int x :: rest)) := by
  subst hk
  exact lv_tableIn hexec hb hdg h1 h2 ho ht kk
theorem lk_in {dflt : Int} {ps : Array (Int × Int)} {len : Nat} {x k : Int32} {off : Int} {tgt : Nat} (hexec : p.tables.exec = Jvm.exec) (hb : c.code = cc) (hdg : decode cc pc = .ok (.lookupswitch dflt ps, len)) (hk : x = k) (hp : (ps.toList.zip (ps.toList.drop 1)).all (fun (a, next) => a.1 < next.1) = true) (ho : Op.lookupswitch.offset ps.toList dflt k.toInt = off) (ht : (pc : Int) + off = (tgt : Int))
    (kk : W p l e R s m args below meth c H locs cells slots Q (F0 m tgt ls rest)) : W p l e R s m args below meth c H locs cells slots Q (F0 m pc ls (.int x :: rest)) := by
  subst hk
  exact lv_lookup hexec hb hdg hp ho ht kk
theorem lk_out {dflt : Int} {ps : Array (Int × Int)} {len : Nat} {x : Int32} {off : Int} {tgt : Nat} (hexec : p.tables.exec = Jvm.exec) (hb : c.code = cc) (hdg : decode cc pc = .ok (.lookupswitch dflt ps, len)) (hp : (ps.toList.zip (ps.toList.drop 1)).all (fun (a, next) => a.1 < next.1) = true) (ho : Op.lookupswitch.offset ps.toList dflt x.toInt = off) (ht : (pc : Int) + off = (tgt : Int))
    (kk : W p l e R s m args below meth c H locs cells slots Q (F0 m tgt ls rest)) : W p l e R s m args below meth c H locs cells slots Q (F0 m pc ls (.int x :: rest)) :=
  lv_lookup hexec hb hdg hp ho ht kk
end OWNROWS
abbrev FS : Type := Bool × Bool × Bool × Bool × Bool
def gFS_s (u : FS) : Bool := u.1
def sFS_s (u : FS) (v : Bool) : FS := (v, u.2)
def gFS_z (u : FS) : Bool := u.2.1
def sFS_z (u : FS) (v : Bool) : FS := (u.1, v, u.2.2)
def gFS_h (u : FS) : Bool := u.2.2.1
def sFS_h (u : FS) (v : Bool) : FS := (u.1, u.2.1, v, u.2.2.2)
def gFS_p (u : FS) : Bool := u.2.2.2.1
def sFS_p (u : FS) (v : Bool) : FS := (u.1, u.2.1, u.2.2.1, v, u.2.2.2.2)
def gFS_c (u : FS) : Bool := u.2.2.2.2
def sFS_c (u : FS) (v : Bool) : FS := (u.1, u.2.1, u.2.2.1, u.2.2.2.1, v)
abbrev CS : Type := (Nat → Int32) × Int32 × Int32 × (Nat → Int32) × Int32
def gCS_inp (u : CS) : (Nat → Int32) := u.1
def sCS_inp (u : CS) (v : (Nat → Int32)) : CS := (v, u.2)
def gCS_fst (u : CS) : Int32 := u.2.1
def sCS_fst (u : CS) (v : Int32) : CS := (u.1, v, u.2.2)
def gCS_cnt (u : CS) : Int32 := u.2.2.1
def sCS_cnt (u : CS) (v : Int32) : CS := (u.1, u.2.1, v, u.2.2.2)
def gCS_out (u : CS) : (Nat → Int32) := u.2.2.2.1
def sCS_out (u : CS) (v : (Nat → Int32)) : CS := (u.1, u.2.1, u.2.2.1, v, u.2.2.2.2)
def gCS_oc (u : CS) : Int32 := u.2.2.2.2
def sCS_oc (u : CS) (v : Int32) : CS := (u.1, u.2.1, u.2.2.1, u.2.2.2.1, v)
abbrev KS : Type := Int32 × Int32 × Int32 × Int32 × Int32 × Bool × Int32 × Int32 × Bool
def gKS_sec (u : KS) : Int32 := u.1
def sKS_sec (u : KS) (v : Int32) : KS := (v, u.2)
def gKS_adr (u : KS) : Int32 := u.2.1
def sKS_adr (u : KS) (v : Int32) : KS := (u.1, v, u.2.2)
def gKS_call (u : KS) : Int32 := u.2.2.1
def sKS_call (u : KS) (v : Int32) : KS := (u.1, u.2.1, v, u.2.2.2)
def gKS_st (u : KS) : Int32 := u.2.2.2.1
def sKS_st (u : KS) (v : Int32) : KS := (u.1, u.2.1, u.2.2.1, v, u.2.2.2.2)
def gKS_start (u : KS) : Int32 := u.2.2.2.2.1
def sKS_start (u : KS) (v : Int32) : KS := (u.1, u.2.1, u.2.2.1, u.2.2.2.1, v, u.2.2.2.2.2)
def gKS_toD (u : KS) : Bool := u.2.2.2.2.2.1
def sKS_toD (u : KS) (v : Bool) : KS := (u.1, u.2.1, u.2.2.1, u.2.2.2.1, u.2.2.2.2.1, v, u.2.2.2.2.2.2)
def gKS_mov (u : KS) : Int32 := u.2.2.2.2.2.2.1
def sKS_mov (u : KS) (v : Int32) : KS := (u.1, u.2.1, u.2.2.1, u.2.2.2.1, u.2.2.2.2.1, u.2.2.2.2.2.1, v, u.2.2.2.2.2.2.2)
def gKS_left (u : KS) : Int32 := u.2.2.2.2.2.2.2.1
def sKS_left (u : KS) (v : Int32) : KS := (u.1, u.2.1, u.2.2.1, u.2.2.2.1, u.2.2.2.2.1, u.2.2.2.2.2.1, u.2.2.2.2.2.2.1, v, u.2.2.2.2.2.2.2.2)
def gKS_just (u : KS) : Bool := u.2.2.2.2.2.2.2.2
def sKS_just (u : KS) (v : Bool) : KS := (u.1, u.2.1, u.2.2.1, u.2.2.2.1, u.2.2.2.2.1, u.2.2.2.2.2.1, u.2.2.2.2.2.2.1, u.2.2.2.2.2.2.2.1, v)
abbrev PS : Type := (Nat → Int32) × Int32 × Int32 × Bool × Bool × Bool × Int32 × Int64
def gPS_r (u : PS) : (Nat → Int32) := u.1
def sPS_r (u : PS) (v : (Nat → Int32)) : PS := (v, u.2)
def gPS_pc (u : PS) : Int32 := u.2.1
def sPS_pc (u : PS) (v : Int32) : PS := (u.1, v, u.2.2)
def gPS_sp (u : PS) : Int32 := u.2.2.1
def sPS_sp (u : PS) (v : Int32) : PS := (u.1, u.2.1, v, u.2.2.2)
def gPS_hlt (u : PS) : Bool := u.2.2.2.1
def sPS_hlt (u : PS) (v : Bool) : PS := (u.1, u.2.1, u.2.2.1, v, u.2.2.2.2)
def gPS_on (u : PS) : Bool := u.2.2.2.2.1
def sPS_on (u : PS) (v : Bool) : PS := (u.1, u.2.1, u.2.2.1, u.2.2.2.1, v, u.2.2.2.2.2)
def gPS_jon (u : PS) : Bool := u.2.2.2.2.2.1
def sPS_jon (u : PS) (v : Bool) : PS := (u.1, u.2.1, u.2.2.1, u.2.2.2.1, u.2.2.2.2.1, v, u.2.2.2.2.2.2)
def gPS_want (u : PS) : Int32 := u.2.2.2.2.2.2.1
def sPS_want (u : PS) (v : Int32) : PS := (u.1, u.2.1, u.2.2.1, u.2.2.2.1, u.2.2.2.2.1, u.2.2.2.2.2.1, v, u.2.2.2.2.2.2.2)
def gPS_cyc (u : PS) : Int64 := u.2.2.2.2.2.2.2
def sPS_cyc (u : PS) (v : Int64) : PS := (u.1, u.2.1, u.2.2.1, u.2.2.2.1, u.2.2.2.2.1, u.2.2.2.2.2.1, u.2.2.2.2.2.2.1, v)
abbrev KW : Type := KS × (Nat → Int32) × (Nat → Int32)
def gKW_K (u : KW) : KS := u.1
def sKW_K (u : KW) (v : KS) : KW := (v, u.2)
def gKW_m (u : KW) : (Nat → Int32) := u.2.1
def sKW_m (u : KW) (v : (Nat → Int32)) : KW := (u.1, v, u.2.2)
def gKW_d (u : KW) : (Nat → Int32) := u.2.2
def sKW_d (u : KW) (v : (Nat → Int32)) : KW := (u.1, u.2.1, v)
abbrev PW : Type := PS × (Nat → Int32) × (Nat → Int32) × CS × KS × FS
def gPW_P (u : PW) : PS := u.1
def sPW_P (u : PW) (v : PS) : PW := (v, u.2)
def gPW_m (u : PW) : (Nat → Int32) := u.2.1
def sPW_m (u : PW) (v : (Nat → Int32)) : PW := (u.1, v, u.2.2)
def gPW_d (u : PW) : (Nat → Int32) := u.2.2.1
def sPW_d (u : PW) (v : (Nat → Int32)) : PW := (u.1, u.2.1, v, u.2.2.2)
def gPW_C (u : PW) : CS := u.2.2.2.1
def sPW_C (u : PW) (v : CS) : PW := (u.1, u.2.1, u.2.2.1, v, u.2.2.2.2)
def gPW_K (u : PW) : KS := u.2.2.2.2.1
def sPW_K (u : PW) (v : KS) : PW := (u.1, u.2.1, u.2.2.1, u.2.2.2.1, v, u.2.2.2.2.2)
def gPW_F (u : PW) : FS := u.2.2.2.2.2
def sPW_F (u : PW) (v : FS) : PW := (u.1, u.2.1, u.2.2.1, u.2.2.2.1, u.2.2.2.2.1, v)
abbrev MW : Type := Int32 × (Nat → Int32) × (Nat → Int32) × (Nat → Int32) × Bool × Bool × Bool × Bool × Bool × Int32 × Int32 × Bool × Bool × Bool × Int32 × Int64 × Int32 × (Nat → Int32) × Int32 × (Nat → Int32) × Int32 × Int32 × Int32 × Int32 × Int32 × Int32 × Int32 × Int32 × Int32 × Bool
def gMW_thr (u : MW) : Int32 := u.1
def sMW_thr (u : MW) (v : Int32) : MW := (v, u.2)
def gMW_m (u : MW) : (Nat → Int32) := u.2.1
def sMW_m (u : MW) (v : (Nat → Int32)) : MW := (u.1, v, u.2.2)
def gMW_d (u : MW) : (Nat → Int32) := u.2.2.1
def sMW_d (u : MW) (v : (Nat → Int32)) : MW := (u.1, u.2.1, v, u.2.2.2)
def gMW_r (u : MW) : (Nat → Int32) := u.2.2.2.1
def sMW_r (u : MW) (v : (Nat → Int32)) : MW := (u.1, u.2.1, u.2.2.1, v, u.2.2.2.2)
def gMW_s (u : MW) : Bool := u.2.2.2.2.1
def sMW_s (u : MW) (v : Bool) : MW := (u.1, u.2.1, u.2.2.1, u.2.2.2.1, v, u.2.2.2.2.2)
def gMW_z (u : MW) : Bool := u.2.2.2.2.2.1
def sMW_z (u : MW) (v : Bool) : MW := (u.1, u.2.1, u.2.2.1, u.2.2.2.1, u.2.2.2.2.1, v, u.2.2.2.2.2.2)
def gMW_h (u : MW) : Bool := u.2.2.2.2.2.2.1
def sMW_h (u : MW) (v : Bool) : MW := (u.1, u.2.1, u.2.2.1, u.2.2.2.1, u.2.2.2.2.1, u.2.2.2.2.2.1, v, u.2.2.2.2.2.2.2)
def gMW_p (u : MW) : Bool := u.2.2.2.2.2.2.2.1
def sMW_p (u : MW) (v : Bool) : MW := (u.1, u.2.1, u.2.2.1, u.2.2.2.1, u.2.2.2.2.1, u.2.2.2.2.2.1, u.2.2.2.2.2.2.1, v, u.2.2.2.2.2.2.2.2)
def gMW_c (u : MW) : Bool := u.2.2.2.2.2.2.2.2.1
def sMW_c (u : MW) (v : Bool) : MW := (u.1, u.2.1, u.2.2.1, u.2.2.2.1, u.2.2.2.2.1, u.2.2.2.2.2.1, u.2.2.2.2.2.2.1, u.2.2.2.2.2.2.2.1, v, u.2.2.2.2.2.2.2.2.2)
def gMW_pc (u : MW) : Int32 := u.2.2.2.2.2.2.2.2.2.1
def sMW_pc (u : MW) (v : Int32) : MW := (u.1, u.2.1, u.2.2.1, u.2.2.2.1, u.2.2.2.2.1, u.2.2.2.2.2.1, u.2.2.2.2.2.2.1, u.2.2.2.2.2.2.2.1, u.2.2.2.2.2.2.2.2.1, v, u.2.2.2.2.2.2.2.2.2.2)
def gMW_sp (u : MW) : Int32 := u.2.2.2.2.2.2.2.2.2.2.1
def sMW_sp (u : MW) (v : Int32) : MW := (u.1, u.2.1, u.2.2.1, u.2.2.2.1, u.2.2.2.2.1, u.2.2.2.2.2.1, u.2.2.2.2.2.2.1, u.2.2.2.2.2.2.2.1, u.2.2.2.2.2.2.2.2.1, u.2.2.2.2.2.2.2.2.2.1, v, u.2.2.2.2.2.2.2.2.2.2.2)
def gMW_hlt (u : MW) : Bool := u.2.2.2.2.2.2.2.2.2.2.2.1
def sMW_hlt (u : MW) (v : Bool) : MW := (u.1, u.2.1, u.2.2.1, u.2.2.2.1, u.2.2.2.2.1, u.2.2.2.2.2.1, u.2.2.2.2.2.2.1, u.2.2.2.2.2.2.2.1, u.2.2.2.2.2.2.2.2.1, u.2.2.2.2.2.2.2.2.2.1, u.2.2.2.2.2.2.2.2.2.2.1, v, u.2.2.2.2.2.2.2.2.2.2.2.2)
def gMW_on (u : MW) : Bool := u.2.2.2.2.2.2.2.2.2.2.2.2.1
def sMW_on (u : MW) (v : Bool) : MW := (u.1, u.2.1, u.2.2.1, u.2.2.2.1, u.2.2.2.2.1, u.2.2.2.2.2.1, u.2.2.2.2.2.2.1, u.2.2.2.2.2.2.2.1, u.2.2.2.2.2.2.2.2.1, u.2.2.2.2.2.2.2.2.2.1, u.2.2.2.2.2.2.2.2.2.2.1, u.2.2.2.2.2.2.2.2.2.2.2.1, v, u.2.2.2.2.2.2.2.2.2.2.2.2.2)
def gMW_jon (u : MW) : Bool := u.2.2.2.2.2.2.2.2.2.2.2.2.2.1
def sMW_jon (u : MW) (v : Bool) : MW := (u.1, u.2.1, u.2.2.1, u.2.2.2.1, u.2.2.2.2.1, u.2.2.2.2.2.1, u.2.2.2.2.2.2.1, u.2.2.2.2.2.2.2.1, u.2.2.2.2.2.2.2.2.1, u.2.2.2.2.2.2.2.2.2.1, u.2.2.2.2.2.2.2.2.2.2.1, u.2.2.2.2.2.2.2.2.2.2.2.1, u.2.2.2.2.2.2.2.2.2.2.2.2.1, v, u.2.2.2.2.2.2.2.2.2.2.2.2.2.2)
def gMW_want (u : MW) : Int32 := u.2.2.2.2.2.2.2.2.2.2.2.2.2.2.1
def sMW_want (u : MW) (v : Int32) : MW := (u.1, u.2.1, u.2.2.1, u.2.2.2.1, u.2.2.2.2.1, u.2.2.2.2.2.1, u.2.2.2.2.2.2.1, u.2.2.2.2.2.2.2.1, u.2.2.2.2.2.2.2.2.1, u.2.2.2.2.2.2.2.2.2.1, u.2.2.2.2.2.2.2.2.2.2.1, u.2.2.2.2.2.2.2.2.2.2.2.1, u.2.2.2.2.2.2.2.2.2.2.2.2.1, u.2.2.2.2.2.2.2.2.2.2.2.2.2.1, v, u.2.2.2.2.2.2.2.2.2.2.2.2.2.2.2)
def gMW_cyc (u : MW) : Int64 := u.2.2.2.2.2.2.2.2.2.2.2.2.2.2.2.1
def sMW_cyc (u : MW) (v : Int64) : MW := (u.1, u.2.1, u.2.2.1, u.2.2.2.1, u.2.2.2.2.1, u.2.2.2.2.2.1, u.2.2.2.2.2.2.1, u.2.2.2.2.2.2.2.1, u.2.2.2.2.2.2.2.2.1, u.2.2.2.2.2.2.2.2.2.1, u.2.2.2.2.2.2.2.2.2.2.1, u.2.2.2.2.2.2.2.2.2.2.2.1, u.2.2.2.2.2.2.2.2.2.2.2.2.1, u.2.2.2.2.2.2.2.2.2.2.2.2.2.1, u.2.2.2.2.2.2.2.2.2.2.2.2.2.2.1, v, u.2.2.2.2.2.2.2.2.2.2.2.2.2.2.2.2)
def gMW_spent (u : MW) : Int32 := u.2.2.2.2.2.2.2.2.2.2.2.2.2.2.2.2.1
def sMW_spent (u : MW) (v : Int32) : MW := (u.1, u.2.1, u.2.2.1, u.2.2.2.1, u.2.2.2.2.1, u.2.2.2.2.2.1, u.2.2.2.2.2.2.1, u.2.2.2.2.2.2.2.1, u.2.2.2.2.2.2.2.2.1, u.2.2.2.2.2.2.2.2.2.1, u.2.2.2.2.2.2.2.2.2.2.1, u.2.2.2.2.2.2.2.2.2.2.2.1, u.2.2.2.2.2.2.2.2.2.2.2.2.1, u.2.2.2.2.2.2.2.2.2.2.2.2.2.1, u.2.2.2.2.2.2.2.2.2.2.2.2.2.2.1, u.2.2.2.2.2.2.2.2.2.2.2.2.2.2.2.1, v, u.2.2.2.2.2.2.2.2.2.2.2.2.2.2.2.2.2)
def gMW_inp (u : MW) : (Nat → Int32) := u.2.2.2.2.2.2.2.2.2.2.2.2.2.2.2.2.2.1
def sMW_inp (u : MW) (v : (Nat → Int32)) : MW := (u.1, u.2.1, u.2.2.1, u.2.2.2.1, u.2.2.2.2.1, u.2.2.2.2.2.1, u.2.2.2.2.2.2.1, u.2.2.2.2.2.2.2.1, u.2.2.2.2.2.2.2.2.1, u.2.2.2.2.2.2.2.2.2.1, u.2.2.2.2.2.2.2.2.2.2.1, u.2.2.2.2.2.2.2.2.2.2.2.1, u.2.2.2.2.2.2.2.2.2.2.2.2.1, u.2.2.2.2.2.2.2.2.2.2.2.2.2.1, u.2.2.2.2.2.2.2.2.2.2.2.2.2.2.1, u.2.2.2.2.2.2.2.2.2.2.2.2.2.2.2.1, u.2.2.2.2.2.2.2.2.2.2.2.2.2.2.2.2.1, v, u.2.2.2.2.2.2.2.2.2.2.2.2.2.2.2.2.2.2)
def gMW_ins (u : MW) : Int32 := u.2.2.2.2.2.2.2.2.2.2.2.2.2.2.2.2.2.2.1
def sMW_ins (u : MW) (v : Int32) : MW := (u.1, u.2.1, u.2.2.1, u.2.2.2.1, u.2.2.2.2.1, u.2.2.2.2.2.1, u.2.2.2.2.2.2.1, u.2.2.2.2.2.2.2.1, u.2.2.2.2.2.2.2.2.1, u.2.2.2.2.2.2.2.2.2.1, u.2.2.2.2.2.2.2.2.2.2.1, u.2.2.2.2.2.2.2.2.2.2.2.1, u.2.2.2.2.2.2.2.2.2.2.2.2.1, u.2.2.2.2.2.2.2.2.2.2.2.2.2.1, u.2.2.2.2.2.2.2.2.2.2.2.2.2.2.1, u.2.2.2.2.2.2.2.2.2.2.2.2.2.2.2.1, u.2.2.2.2.2.2.2.2.2.2.2.2.2.2.2.2.1, u.2.2.2.2.2.2.2.2.2.2.2.2.2.2.2.2.2.1, v, u.2.2.2.2.2.2.2.2.2.2.2.2.2.2.2.2.2.2.2)
def gMW_out (u : MW) : (Nat → Int32) := u.2.2.2.2.2.2.2.2.2.2.2.2.2.2.2.2.2.2.2.1
def sMW_out (u : MW) (v : (Nat → Int32)) : MW := (u.1, u.2.1, u.2.2.1, u.2.2.2.1, u.2.2.2.2.1, u.2.2.2.2.2.1, u.2.2.2.2.2.2.1, u.2.2.2.2.2.2.2.1, u.2.2.2.2.2.2.2.2.1, u.2.2.2.2.2.2.2.2.2.1, u.2.2.2.2.2.2.2.2.2.2.1, u.2.2.2.2.2.2.2.2.2.2.2.1, u.2.2.2.2.2.2.2.2.2.2.2.2.1, u.2.2.2.2.2.2.2.2.2.2.2.2.2.1, u.2.2.2.2.2.2.2.2.2.2.2.2.2.2.1, u.2.2.2.2.2.2.2.2.2.2.2.2.2.2.2.1, u.2.2.2.2.2.2.2.2.2.2.2.2.2.2.2.2.1, u.2.2.2.2.2.2.2.2.2.2.2.2.2.2.2.2.2.1, u.2.2.2.2.2.2.2.2.2.2.2.2.2.2.2.2.2.2.1, v, u.2.2.2.2.2.2.2.2.2.2.2.2.2.2.2.2.2.2.2.2)
def gMW_outs (u : MW) : Int32 := u.2.2.2.2.2.2.2.2.2.2.2.2.2.2.2.2.2.2.2.2.1
def sMW_outs (u : MW) (v : Int32) : MW := (u.1, u.2.1, u.2.2.1, u.2.2.2.1, u.2.2.2.2.1, u.2.2.2.2.2.1, u.2.2.2.2.2.2.1, u.2.2.2.2.2.2.2.1, u.2.2.2.2.2.2.2.2.1, u.2.2.2.2.2.2.2.2.2.1, u.2.2.2.2.2.2.2.2.2.2.1, u.2.2.2.2.2.2.2.2.2.2.2.1, u.2.2.2.2.2.2.2.2.2.2.2.2.1, u.2.2.2.2.2.2.2.2.2.2.2.2.2.1, u.2.2.2.2.2.2.2.2.2.2.2.2.2.2.1, u.2.2.2.2.2.2.2.2.2.2.2.2.2.2.2.1, u.2.2.2.2.2.2.2.2.2.2.2.2.2.2.2.2.1, u.2.2.2.2.2.2.2.2.2.2.2.2.2.2.2.2.2.1, u.2.2.2.2.2.2.2.2.2.2.2.2.2.2.2.2.2.2.1, u.2.2.2.2.2.2.2.2.2.2.2.2.2.2.2.2.2.2.2.1, v, u.2.2.2.2.2.2.2.2.2.2.2.2.2.2.2.2.2.2.2.2.2)
def gMW_sec (u : MW) : Int32 := u.2.2.2.2.2.2.2.2.2.2.2.2.2.2.2.2.2.2.2.2.2.1
def sMW_sec (u : MW) (v : Int32) : MW := (u.1, u.2.1, u.2.2.1, u.2.2.2.1, u.2.2.2.2.1, u.2.2.2.2.2.1, u.2.2.2.2.2.2.1, u.2.2.2.2.2.2.2.1, u.2.2.2.2.2.2.2.2.1, u.2.2.2.2.2.2.2.2.2.1, u.2.2.2.2.2.2.2.2.2.2.1, u.2.2.2.2.2.2.2.2.2.2.2.1, u.2.2.2.2.2.2.2.2.2.2.2.2.1, u.2.2.2.2.2.2.2.2.2.2.2.2.2.1, u.2.2.2.2.2.2.2.2.2.2.2.2.2.2.1, u.2.2.2.2.2.2.2.2.2.2.2.2.2.2.2.1, u.2.2.2.2.2.2.2.2.2.2.2.2.2.2.2.2.1, u.2.2.2.2.2.2.2.2.2.2.2.2.2.2.2.2.2.1, u.2.2.2.2.2.2.2.2.2.2.2.2.2.2.2.2.2.2.1, u.2.2.2.2.2.2.2.2.2.2.2.2.2.2.2.2.2.2.2.1, u.2.2.2.2.2.2.2.2.2.2.2.2.2.2.2.2.2.2.2.2.1, v, u.2.2.2.2.2.2.2.2.2.2.2.2.2.2.2.2.2.2.2.2.2.2)
def gMW_adr (u : MW) : Int32 := u.2.2.2.2.2.2.2.2.2.2.2.2.2.2.2.2.2.2.2.2.2.2.1
def sMW_adr (u : MW) (v : Int32) : MW := (u.1, u.2.1, u.2.2.1, u.2.2.2.1, u.2.2.2.2.1, u.2.2.2.2.2.1, u.2.2.2.2.2.2.1, u.2.2.2.2.2.2.2.1, u.2.2.2.2.2.2.2.2.1, u.2.2.2.2.2.2.2.2.2.1, u.2.2.2.2.2.2.2.2.2.2.1, u.2.2.2.2.2.2.2.2.2.2.2.1, u.2.2.2.2.2.2.2.2.2.2.2.2.1, u.2.2.2.2.2.2.2.2.2.2.2.2.2.1, u.2.2.2.2.2.2.2.2.2.2.2.2.2.2.1, u.2.2.2.2.2.2.2.2.2.2.2.2.2.2.2.1, u.2.2.2.2.2.2.2.2.2.2.2.2.2.2.2.2.1, u.2.2.2.2.2.2.2.2.2.2.2.2.2.2.2.2.2.1, u.2.2.2.2.2.2.2.2.2.2.2.2.2.2.2.2.2.2.1, u.2.2.2.2.2.2.2.2.2.2.2.2.2.2.2.2.2.2.2.1, u.2.2.2.2.2.2.2.2.2.2.2.2.2.2.2.2.2.2.2.2.1, u.2.2.2.2.2.2.2.2.2.2.2.2.2.2.2.2.2.2.2.2.2.1, v, u.2.2.2.2.2.2.2.2.2.2.2.2.2.2.2.2.2.2.2.2.2.2.2)
def gMW_call (u : MW) : Int32 := u.2.2.2.2.2.2.2.2.2.2.2.2.2.2.2.2.2.2.2.2.2.2.2.1
def sMW_call (u : MW) (v : Int32) : MW := (u.1, u.2.1, u.2.2.1, u.2.2.2.1, u.2.2.2.2.1, u.2.2.2.2.2.1, u.2.2.2.2.2.2.1, u.2.2.2.2.2.2.2.1, u.2.2.2.2.2.2.2.2.1, u.2.2.2.2.2.2.2.2.2.1, u.2.2.2.2.2.2.2.2.2.2.1, u.2.2.2.2.2.2.2.2.2.2.2.1, u.2.2.2.2.2.2.2.2.2.2.2.2.1, u.2.2.2.2.2.2.2.2.2.2.2.2.2.1, u.2.2.2.2.2.2.2.2.2.2.2.2.2.2.1, u.2.2.2.2.2.2.2.2.2.2.2.2.2.2.2.1, u.2.2.2.2.2.2.2.2.2.2.2.2.2.2.2.2.1, u.2.2.2.2.2.2.2.2.2.2.2.2.2.2.2.2.2.1, u.2.2.2.2.2.2.2.2.2.2.2.2.2.2.2.2.2.2.1, u.2.2.2.2.2.2.2.2.2.2.2.2.2.2.2.2.2.2.2.1, u.2.2.2.2.2.2.2.2.2.2.2.2.2.2.2.2.2.2.2.2.1, u.2.2.2.2.2.2.2.2.2.2.2.2.2.2.2.2.2.2.2.2.2.1, u.2.2.2.2.2.2.2.2.2.2.2.2.2.2.2.2.2.2.2.2.2.2.1, v, u.2.2.2.2.2.2.2.2.2.2.2.2.2.2.2.2.2.2.2.2.2.2.2.2)
def gMW_st (u : MW) : Int32 := u.2.2.2.2.2.2.2.2.2.2.2.2.2.2.2.2.2.2.2.2.2.2.2.2.1
def sMW_st (u : MW) (v : Int32) : MW := (u.1, u.2.1, u.2.2.1, u.2.2.2.1, u.2.2.2.2.1, u.2.2.2.2.2.1, u.2.2.2.2.2.2.1, u.2.2.2.2.2.2.2.1, u.2.2.2.2.2.2.2.2.1, u.2.2.2.2.2.2.2.2.2.1, u.2.2.2.2.2.2.2.2.2.2.1, u.2.2.2.2.2.2.2.2.2.2.2.1, u.2.2.2.2.2.2.2.2.2.2.2.2.1, u.2.2.2.2.2.2.2.2.2.2.2.2.2.1, u.2.2.2.2.2.2.2.2.2.2.2.2.2.2.1, u.2.2.2.2.2.2.2.2.2.2.2.2.2.2.2.1, u.2.2.2.2.2.2.2.2.2.2.2.2.2.2.2.2.1, u.2.2.2.2.2.2.2.2.2.2.2.2.2.2.2.2.2.1, u.2.2.2.2.2.2.2.2.2.2.2.2.2.2.2.2.2.2.1, u.2.2.2.2.2.2.2.2.2.2.2.2.2.2.2.2.2.2.2.1, u.2.2.2.2.2.2.2.2.2.2.2.2.2.2.2.2.2.2.2.2.1, u.2.2.2.2.2.2.2.2.2.2.2.2.2.2.2.2.2.2.2.2.2.1, u.2.2.2.2.2.2.2.2.2.2.2.2.2.2.2.2.2.2.2.2.2.2.1, u.2.2.2.2.2.2.2.2.2.2.2.2.2.2.2.2.2.2.2.2.2.2.2.1, v, u.2.2.2.2.2.2.2.2.2.2.2.2.2.2.2.2.2.2.2.2.2.2.2.2.2)
def gMW_cmd (u : MW) : Int32 := u.2.2.2.2.2.2.2.2.2.2.2.2.2.2.2.2.2.2.2.2.2.2.2.2.2.1
def sMW_cmd (u : MW) (v : Int32) : MW := (u.1, u.2.1, u.2.2.1, u.2.2.2.1, u.2.2.2.2.1, u.2.2.2.2.2.1, u.2.2.2.2.2.2.1, u.2.2.2.2.2.2.2.1, u.2.2.2.2.2.2.2.2.1, u.2.2.2.2.2.2.2.2.2.1, u.2.2.2.2.2.2.2.2.2.2.1, u.2.2.2.2.2.2.2.2.2.2.2.1, u.2.2.2.2.2.2.2.2.2.2.2.2.1, u.2.2.2.2.2.2.2.2.2.2.2.2.2.1, u.2.2.2.2.2.2.2.2.2.2.2.2.2.2.1, u.2.2.2.2.2.2.2.2.2.2.2.2.2.2.2.1, u.2.2.2.2.2.2.2.2.2.2.2.2.2.2.2.2.1, u.2.2.2.2.2.2.2.2.2.2.2.2.2.2.2.2.2.1, u.2.2.2.2.2.2.2.2.2.2.2.2.2.2.2.2.2.2.1, u.2.2.2.2.2.2.2.2.2.2.2.2.2.2.2.2.2.2.2.1, u.2.2.2.2.2.2.2.2.2.2.2.2.2.2.2.2.2.2.2.2.1, u.2.2.2.2.2.2.2.2.2.2.2.2.2.2.2.2.2.2.2.2.2.1, u.2.2.2.2.2.2.2.2.2.2.2.2.2.2.2.2.2.2.2.2.2.2.1, u.2.2.2.2.2.2.2.2.2.2.2.2.2.2.2.2.2.2.2.2.2.2.2.1, u.2.2.2.2.2.2.2.2.2.2.2.2.2.2.2.2.2.2.2.2.2.2.2.2.1, v, u.2.2.2.2.2.2.2.2.2.2.2.2.2.2.2.2.2.2.2.2.2.2.2.2.2.2)
def gMW_frm (u : MW) : Int32 := u.2.2.2.2.2.2.2.2.2.2.2.2.2.2.2.2.2.2.2.2.2.2.2.2.2.2.1
def sMW_frm (u : MW) (v : Int32) : MW := (u.1, u.2.1, u.2.2.1, u.2.2.2.1, u.2.2.2.2.1, u.2.2.2.2.2.1, u.2.2.2.2.2.2.1, u.2.2.2.2.2.2.2.1, u.2.2.2.2.2.2.2.2.1, u.2.2.2.2.2.2.2.2.2.1, u.2.2.2.2.2.2.2.2.2.2.1, u.2.2.2.2.2.2.2.2.2.2.2.1, u.2.2.2.2.2.2.2.2.2.2.2.2.1, u.2.2.2.2.2.2.2.2.2.2.2.2.2.1, u.2.2.2.2.2.2.2.2.2.2.2.2.2.2.1, u.2.2.2.2.2.2.2.2.2.2.2.2.2.2.2.1, u.2.2.2.2.2.2.2.2.2.2.2.2.2.2.2.2.1, u.2.2.2.2.2.2.2.2.2.2.2.2.2.2.2.2.2.1, u.2.2.2.2.2.2.2.2.2.2.2.2.2.2.2.2.2.2.1, u.2.2.2.2.2.2.2.2.2.2.2.2.2.2.2.2.2.2.2.1, u.2.2.2.2.2.2.2.2.2.2.2.2.2.2.2.2.2.2.2.2.1, u.2.2.2.2.2.2.2.2.2.2.2.2.2.2.2.2.2.2.2.2.2.1, u.2.2.2.2.2.2.2.2.2.2.2.2.2.2.2.2.2.2.2.2.2.2.1, u.2.2.2.2.2.2.2.2.2.2.2.2.2.2.2.2.2.2.2.2.2.2.2.1, u.2.2.2.2.2.2.2.2.2.2.2.2.2.2.2.2.2.2.2.2.2.2.2.2.1, u.2.2.2.2.2.2.2.2.2.2.2.2.2.2.2.2.2.2.2.2.2.2.2.2.2.1, v, u.2.2.2.2.2.2.2.2.2.2.2.2.2.2.2.2.2.2.2.2.2.2.2.2.2.2.2)
def gMW_mov (u : MW) : Int32 := u.2.2.2.2.2.2.2.2.2.2.2.2.2.2.2.2.2.2.2.2.2.2.2.2.2.2.2.1
def sMW_mov (u : MW) (v : Int32) : MW := (u.1, u.2.1, u.2.2.1, u.2.2.2.1, u.2.2.2.2.1, u.2.2.2.2.2.1, u.2.2.2.2.2.2.1, u.2.2.2.2.2.2.2.1, u.2.2.2.2.2.2.2.2.1, u.2.2.2.2.2.2.2.2.2.1, u.2.2.2.2.2.2.2.2.2.2.1, u.2.2.2.2.2.2.2.2.2.2.2.1, u.2.2.2.2.2.2.2.2.2.2.2.2.1, u.2.2.2.2.2.2.2.2.2.2.2.2.2.1, u.2.2.2.2.2.2.2.2.2.2.2.2.2.2.1, u.2.2.2.2.2.2.2.2.2.2.2.2.2.2.2.1, u.2.2.2.2.2.2.2.2.2.2.2.2.2.2.2.2.1, u.2.2.2.2.2.2.2.2.2.2.2.2.2.2.2.2.2.1, u.2.2.2.2.2.2.2.2.2.2.2.2.2.2.2.2.2.2.1, u.2.2.2.2.2.2.2.2.2.2.2.2.2.2.2.2.2.2.2.1, u.2.2.2.2.2.2.2.2.2.2.2.2.2.2.2.2.2.2.2.2.1, u.2.2.2.2.2.2.2.2.2.2.2.2.2.2.2.2.2.2.2.2.2.1, u.2.2.2.2.2.2.2.2.2.2.2.2.2.2.2.2.2.2.2.2.2.2.1, u.2.2.2.2.2.2.2.2.2.2.2.2.2.2.2.2.2.2.2.2.2.2.2.1, u.2.2.2.2.2.2.2.2.2.2.2.2.2.2.2.2.2.2.2.2.2.2.2.2.1, u.2.2.2.2.2.2.2.2.2.2.2.2.2.2.2.2.2.2.2.2.2.2.2.2.2.1, u.2.2.2.2.2.2.2.2.2.2.2.2.2.2.2.2.2.2.2.2.2.2.2.2.2.2.1, v, u.2.2.2.2.2.2.2.2.2.2.2.2.2.2.2.2.2.2.2.2.2.2.2.2.2.2.2.2)
def gMW_due (u : MW) : Int32 := u.2.2.2.2.2.2.2.2.2.2.2.2.2.2.2.2.2.2.2.2.2.2.2.2.2.2.2.2.1
def sMW_due (u : MW) (v : Int32) : MW := (u.1, u.2.1, u.2.2.1, u.2.2.2.1, u.2.2.2.2.1, u.2.2.2.2.2.1, u.2.2.2.2.2.2.1, u.2.2.2.2.2.2.2.1, u.2.2.2.2.2.2.2.2.1, u.2.2.2.2.2.2.2.2.2.1, u.2.2.2.2.2.2.2.2.2.2.1, u.2.2.2.2.2.2.2.2.2.2.2.1, u.2.2.2.2.2.2.2.2.2.2.2.2.1, u.2.2.2.2.2.2.2.2.2.2.2.2.2.1, u.2.2.2.2.2.2.2.2.2.2.2.2.2.2.1, u.2.2.2.2.2.2.2.2.2.2.2.2.2.2.2.1, u.2.2.2.2.2.2.2.2.2.2.2.2.2.2.2.2.1, u.2.2.2.2.2.2.2.2.2.2.2.2.2.2.2.2.2.1, u.2.2.2.2.2.2.2.2.2.2.2.2.2.2.2.2.2.2.1, u.2.2.2.2.2.2.2.2.2.2.2.2.2.2.2.2.2.2.2.1, u.2.2.2.2.2.2.2.2.2.2.2.2.2.2.2.2.2.2.2.2.1, u.2.2.2.2.2.2.2.2.2.2.2.2.2.2.2.2.2.2.2.2.2.1, u.2.2.2.2.2.2.2.2.2.2.2.2.2.2.2.2.2.2.2.2.2.2.1, u.2.2.2.2.2.2.2.2.2.2.2.2.2.2.2.2.2.2.2.2.2.2.2.1, u.2.2.2.2.2.2.2.2.2.2.2.2.2.2.2.2.2.2.2.2.2.2.2.2.1, u.2.2.2.2.2.2.2.2.2.2.2.2.2.2.2.2.2.2.2.2.2.2.2.2.2.1, u.2.2.2.2.2.2.2.2.2.2.2.2.2.2.2.2.2.2.2.2.2.2.2.2.2.2.1, u.2.2.2.2.2.2.2.2.2.2.2.2.2.2.2.2.2.2.2.2.2.2.2.2.2.2.2.1, v, u.2.2.2.2.2.2.2.2.2.2.2.2.2.2.2.2.2.2.2.2.2.2.2.2.2.2.2.2.2)
def gMW_fresh (u : MW) : Bool := u.2.2.2.2.2.2.2.2.2.2.2.2.2.2.2.2.2.2.2.2.2.2.2.2.2.2.2.2.2
def sMW_fresh (u : MW) (v : Bool) : MW := (u.1, u.2.1, u.2.2.1, u.2.2.2.1, u.2.2.2.2.1, u.2.2.2.2.2.1, u.2.2.2.2.2.2.1, u.2.2.2.2.2.2.2.1, u.2.2.2.2.2.2.2.2.1, u.2.2.2.2.2.2.2.2.2.1, u.2.2.2.2.2.2.2.2.2.2.1, u.2.2.2.2.2.2.2.2.2.2.2.1, u.2.2.2.2.2.2.2.2.2.2.2.2.1, u.2.2.2.2.2.2.2.2.2.2.2.2.2.1, u.2.2.2.2.2.2.2.2.2.2.2.2.2.2.1, u.2.2.2.2.2.2.2.2.2.2.2.2.2.2.2.1, u.2.2.2.2.2.2.2.2.2.2.2.2.2.2.2.2.1, u.2.2.2.2.2.2.2.2.2.2.2.2.2.2.2.2.2.1, u.2.2.2.2.2.2.2.2.2.2.2.2.2.2.2.2.2.2.1, u.2.2.2.2.2.2.2.2.2.2.2.2.2.2.2.2.2.2.2.1, u.2.2.2.2.2.2.2.2.2.2.2.2.2.2.2.2.2.2.2.2.1, u.2.2.2.2.2.2.2.2.2.2.2.2.2.2.2.2.2.2.2.2.2.1, u.2.2.2.2.2.2.2.2.2.2.2.2.2.2.2.2.2.2.2.2.2.2.1, u.2.2.2.2.2.2.2.2.2.2.2.2.2.2.2.2.2.2.2.2.2.2.2.1, u.2.2.2.2.2.2.2.2.2.2.2.2.2.2.2.2.2.2.2.2.2.2.2.2.1, u.2.2.2.2.2.2.2.2.2.2.2.2.2.2.2.2.2.2.2.2.2.2.2.2.2.1, u.2.2.2.2.2.2.2.2.2.2.2.2.2.2.2.2.2.2.2.2.2.2.2.2.2.2.1, u.2.2.2.2.2.2.2.2.2.2.2.2.2.2.2.2.2.2.2.2.2.2.2.2.2.2.2.1, u.2.2.2.2.2.2.2.2.2.2.2.2.2.2.2.2.2.2.2.2.2.2.2.2.2.2.2.2.1, v)
def gPW_KW (u : PW) : KW := (gPW_K u, gPW_m u, gPW_d u)
def sPW_KW (u : PW) (v : KW) : PW := (gPW_P u, gKW_m v, gKW_d v, gPW_C u, gKW_K v, gPW_F u)
abbrev wF (cI : ClassId) (fO : Nat) (u : FS) : va_W := [(fO, .inr (3, [.int (bI (gFS_s u)), .int (bI (gFS_z u)), .int (bI (gFS_h u)), .int (bI (gFS_p u)), .int (bI (gFS_c u))]))]
abbrev wA (cI : ClassId) (aO fO : Nat) (u : FS) : va_W := [(aO, .inr (0, [.ref fO])), (fO, .inr (3, [.int (bI (gFS_s u)), .int (bI (gFS_z u)), .int (bI (gFS_h u)), .int (bI (gFS_p u)), .int (bI (gFS_c u))]))]
abbrev wS (cI : ClassId) (mS mA : Nat) (u : (Nat → Int32)) : va_W := [(mS, .inr (5, [.ref mA])), (mA, .inl (cI, 4096, .inl u))]
abbrev wC (cI : ClassId) (cO iA oA : Nat) (u : CS) : va_W := [(cO, .inr (1, [.ref iA, .int (gCS_fst u), .int (gCS_cnt u), .ref oA, .int (gCS_oc u)])), (iA, .inl (cI, 64, .inl (gCS_inp u))), (oA, .inl (cI, 256, .inl (gCS_out u)))]
abbrev wK (cI : ClassId) (kO mS mA dS dA : Nat) (u : KW) : va_W := [(kO, .inr (2, [.ref mS, .ref dS, .int (gKS_sec (gKW_K u)), .int (gKS_adr (gKW_K u)), .int (gKS_call (gKW_K u)), .int (gKS_st (gKW_K u)), .int (gKS_start (gKW_K u)), .int (bI (gKS_toD (gKW_K u))), .int (gKS_mov (gKW_K u)), .int (gKS_left (gKW_K u)), .int (bI (gKS_just (gKW_K u)))])), (mS, .inr (5, [.ref mA])), (mA, .inl (cI, 4096, .inl (gKW_m u))), (dS, .inr (5, [.ref dA])), (dA, .inl (cI, 4096, .inl (gKW_d u)))]
abbrev wP (cI : ClassId) (pO mS mA dS dA cO iA oA kO fO aO rA : Nat) (u : PW) : va_W := [(pO, .inr (4, [.ref mS, .ref cO, .ref kO, .ref fO, .ref aO, .ref rA, .int (gPS_pc (gPW_P u)), .int (gPS_sp (gPW_P u)), .int (bI (gPS_hlt (gPW_P u))), .int (bI (gPS_on (gPW_P u))), .int (bI (gPS_jon (gPW_P u))), .int (gPS_want (gPW_P u)), .long (gPS_cyc (gPW_P u))])), (mS, .inr (5, [.ref mA])), (mA, .inl (cI, 4096, .inl (gPW_m u))), (dS, .inr (5, [.ref dA])), (dA, .inl (cI, 4096, .inl (gPW_d u))), (cO, .inr (1, [.ref iA, .int (gCS_fst (gPW_C u)), .int (gCS_cnt (gPW_C u)), .ref oA, .int (gCS_oc (gPW_C u))])), (iA, .inl (cI, 64, .inl (gCS_inp (gPW_C u)))), (oA, .inl (cI, 256, .inl (gCS_out (gPW_C u)))), (kO, .inr (2, [.ref mS, .ref dS, .int (gKS_sec (gPW_K u)), .int (gKS_adr (gPW_K u)), .int (gKS_call (gPW_K u)), .int (gKS_st (gPW_K u)), .int (gKS_start (gPW_K u)), .int (bI (gKS_toD (gPW_K u))), .int (gKS_mov (gPW_K u)), .int (gKS_left (gPW_K u)), .int (bI (gKS_just (gPW_K u)))])), (fO, .inr (3, [.int (bI (gFS_s (gPW_F u))), .int (bI (gFS_z (gPW_F u))), .int (bI (gFS_h (gPW_F u))), .int (bI (gFS_p (gPW_F u))), .int (bI (gFS_c (gPW_F u)))])), (aO, .inr (0, [.ref fO])), (rA, .inl (cI, 8, .inl (gPS_r (gPW_P u))))]
abbrev wX (cI : ClassId) (xO pO mS mA dS dA cO iA oA kO fO aO rA : Nat) (u : PW) : va_W := [(xO, .inr (6, [.ref mS, .ref dS, .ref cO, .ref kO, .ref pO])), (pO, .inr (4, [.ref mS, .ref cO, .ref kO, .ref fO, .ref aO, .ref rA, .int (gPS_pc (gPW_P u)), .int (gPS_sp (gPW_P u)), .int (bI (gPS_hlt (gPW_P u))), .int (bI (gPS_on (gPW_P u))), .int (bI (gPS_jon (gPW_P u))), .int (gPS_want (gPW_P u)), .long (gPS_cyc (gPW_P u))])), (mS, .inr (5, [.ref mA])), (mA, .inl (cI, 4096, .inl (gPW_m u))), (dS, .inr (5, [.ref dA])), (dA, .inl (cI, 4096, .inl (gPW_d u))), (cO, .inr (1, [.ref iA, .int (gCS_fst (gPW_C u)), .int (gCS_cnt (gPW_C u)), .ref oA, .int (gCS_oc (gPW_C u))])), (iA, .inl (cI, 64, .inl (gCS_inp (gPW_C u)))), (oA, .inl (cI, 256, .inl (gCS_out (gPW_C u)))), (kO, .inr (2, [.ref mS, .ref dS, .int (gKS_sec (gPW_K u)), .int (gKS_adr (gPW_K u)), .int (gKS_call (gPW_K u)), .int (gKS_st (gPW_K u)), .int (gKS_start (gPW_K u)), .int (bI (gKS_toD (gPW_K u))), .int (gKS_mov (gPW_K u)), .int (gKS_left (gPW_K u)), .int (bI (gKS_just (gPW_K u)))])), (fO, .inr (3, [.int (bI (gFS_s (gPW_F u))), .int (bI (gFS_z (gPW_F u))), .int (bI (gFS_h (gPW_F u))), .int (bI (gFS_p (gPW_F u))), .int (bI (gFS_c (gPW_F u)))])), (aO, .inr (0, [.ref fO])), (rA, .inl (cI, 8, .inl (gPS_r (gPW_P u))))]
abbrev wM (cI : ClassId) (mO memA dskA rgA inA outA : Nat) (u : MW) : va_W := [(mO, .inr (7, [.int (gMW_thr u), .ref memA, .ref dskA, .ref rgA, .int (bI (gMW_s u)), .int (bI (gMW_z u)), .int (bI (gMW_h u)), .int (bI (gMW_p u)), .int (bI (gMW_c u)), .int (gMW_pc u), .int (gMW_sp u), .int (bI (gMW_hlt u)), .int (bI (gMW_on u)), .int (bI (gMW_jon u)), .int (gMW_want u), .long (gMW_cyc u), .int (gMW_spent u), .ref inA, .int (gMW_ins u), .ref outA, .int (gMW_outs u), .int (gMW_sec u), .int (gMW_adr u), .int (gMW_call u), .int (gMW_st u), .int (gMW_cmd u), .int (gMW_frm u), .int (gMW_mov u), .int (gMW_due u), .int (bI (gMW_fresh u))])), (memA, .inl (cI, 4096, .inl (gMW_m u))), (dskA, .inl (cI, 4096, .inl (gMW_d u))), (rgA, .inl (cI, 8, .inl (gMW_r u))), (inA, .inl (cI, 64, .inl (gMW_inp u))), (outA, .inl (cI, 256, .inl (gMW_out u)))]
