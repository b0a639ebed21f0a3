/-! our own words: booleans, joins, switches, indices -/
def bI : Bool → Int32
  | true => 1
  | false => 0
theorem bI_nar : ∀ b : Bool, narrow .boolean (.int (bI b)) = .int (bI b)
  | true => by decide
  | false => by decide
theorem bI_fit : ∀ b : Bool, fits .boolean (.int (bI b)) = true
  | true => by decide
  | false => by decide
theorem bI_eq0 : ∀ b : Bool, bI b = 0 ↔ b = false
  | true => by decide
  | false => by decide
abbrev wB (dC : Nat → ClassId) (dI : Nat → Nat → Nat) (tys : List (ClassId × FieldType)) (sz : Nat) (ws : va_W) : State → Prop := fun U => U.heap.size = sz ∧ va_P (dC, dI) vwCl ws U.heap ∧ va_K (dC, dI) vwCl tys U ∧ va_D (fun _ => True) ws
abbrev wE (dC : Nat → ClassId) (dI : Nat → Nat → Nat) (tys : List (ClassId × FieldType)) (A : Nat → Prop) (ws : va_W) (t : State) : Prop := va_P (dC, dI) vwCl ws t.heap ∧ va_K (dC, dI) vwCl tys t ∧ va_D A ws
theorem ix_lit {x : Int32} {n : Nat} (h : decide (¬ (x < 0 ∨ n ≤ x.toNatClampNeg)) = true) : vp_in x n := by
  unfold vp_in
  exact of_decide_eq_true h
theorem ix_8 (x : Int32) : vp_in (x &&& 7) 8 := pk_andIn x 3 (by decide) (by decide)
theorem ix_256 (x : Int32) : vp_in (x &&& 255) 256 := pk_andIn x 8 (by decide) (by decide)
theorem ix_4096 (x : Int32) : vp_in (x &&& 4095) 4096 := pk_andIn x 12 (by decide) (by decide)
theorem in_cases8 {x : Int32} (h : vp_in x 8) : x = 0 ∨ x = 1 ∨ x = 2 ∨ x = 3 ∨ x = 4 ∨ x = 5 ∨ x = 6 ∨ x = 7 := by
  obtain ⟨j, hj, rfl⟩ := vp_in_of h (by decide)
  rcases (show j = 0 ∨ j = 1 ∨ j = 2 ∨ j = 3 ∨ j = 4 ∨ j = 5 ∨ j = 6 ∨ j = 7 by omega) with rfl | rfl | rfl | rfl | rfl | rfl | rfl | rfl <;> decide
theorem in_cases4 {x : Int32} (h : vp_in x 4) : x = 0 ∨ x = 1 ∨ x = 2 ∨ x = 3 := by
  obtain ⟨j, hj, rfl⟩ := vp_in_of h (by decide)
  rcases (show j = 0 ∨ j = 1 ∨ j = 2 ∨ j = 3 by omega) with rfl | rfl | rfl | rfl <;> decide
theorem in_shr1 {x : Int32} (h : vp_in x 8) : vp_in (x >>> ((1 : Int32) &&& 31)) 4 := by
  rcases in_cases8 h with rfl | rfl | rfl | rfl | rfl | rfl | rfl | rfl <;> exact ix_lit (by decide)
theorem in_div2 {x : Int32} (h : vp_in x 8) : vp_in (x / 2) 4 := by
  rcases in_cases8 h with rfl | rfl | rfl | rfl | rfl | rfl | rfl | rfl <;> exact ix_lit (by decide)
theorem ix_2p {x : Int32} (h : vp_in x 4) : vp_in (2 * x) 8 := by
  rcases in_cases4 h with rfl | rfl | rfl | rfl <;> exact ix_lit (by decide)
theorem ix_2p1 {x : Int32} (h : vp_in x 4) : vp_in ((2 * x) + 1) 8 := by
  rcases in_cases4 h with rfl | rfl | rfl | rfl <;> exact ix_lit (by decide)
theorem ix_ring {x y : Int32} (h : ∃ i j : Nat, i < 64 ∧ j ≤ 64 ∧ x = nI i ∧ y = nI j) : vp_in ((x + y) - (x + y) / 64 * 64) 64 := by
  obtain ⟨i, j, hi, hj, rfl, rfl⟩ := h
  rw [nI_add]
  have h1 := pk_rem (a := i + j) (d := 64) (by omega) (by decide) (by decide)
  rw [show (64 : Int32) = nI 64 from by decide, h1]
  exact vp_in_nI (Nat.mod_lt _ (by decide)) (by decide)
theorem ix_fst {x y : Int32} (h : ∃ i j : Nat, i < 64 ∧ j ≤ 64 ∧ x = nI i ∧ y = nI j) : vp_in x 64 := by
  obtain ⟨i, j, hi, hj, rfl, rfl⟩ := h
  exact vp_in_nI hi (by decide)
section OWNROWS
variable {p : Program} {l : Launch} {e : Env} {R : Room} {s : State} {m : MethodId} {args : Array Value} {below : List Frame} {meth : Method} {c : Code} {H : Heap} {locs : List Loc} {cells slots : Nat} {Q : State → Prop}
variable {cc : ByteArray} {pc : Nat} {ls : Array Slot} {rest : List Value} {D : va_G} {cl : List vw_C} {ws : va_W} {A : Nat → Prop} {H0 : Heap} {nL : Nat}
theorem jn_H {g : JFrame} (hP : va_P D cl ws H) (hS : va_S A H0 H locs) (k : ∀ (H : Heap) (locs : List Loc), va_P D cl ws H → va_S A H0 H locs → W p l e R s m args below meth c H locs cells slots Q g) : W p l e R s m args below meth c H locs cells slots Q g := k H locs hP hS
/-- roads that meet at J with one boolean on the stack -/
theorem jn_b {g : JFrame} (J : Nat) (v : Bool) (lv : List (Nat × Value)) (rst : List Value)
    (hj : ∀ (H : Heap) (locs : List Loc) (ls : Array Slot), va_P D cl ws H → va_S A H0 H locs → lv_has ls nL lv → W p l e R s m args below meth c H locs cells slots Q (F0 m J ls (.int (bI v) :: rst)))
    (hm : (∀ (y : Bool) (H : Heap) (locs : List Loc) (ls : Array Slot), y = v → va_P D cl ws H → va_S A H0 H locs → lv_has ls nL lv → W p l e R s m args below meth c H locs cells slots Q (F0 m J ls (.int (bI y) :: rst))) → W p l e R s m args below meth c H locs cells slots Q g) : W p l e R s m args below meth c H locs cells slots Q g :=
  hm (fun y H locs ls hy hP hS hl => by subst hy; exact hj H locs ls hP hS hl)
theorem jn_i {g : JFrame} (J : Nat) (v : Int32) (lv : List (Nat × Value)) (rst : List Value)
    (hj : ∀ (H : Heap) (locs : List Loc) (ls : Array Slot), va_P D cl ws H → va_S A H0 H locs → lv_has ls nL lv → W p l e R s m args below meth c H locs cells slots Q (F0 m J ls (.int v :: rst)))
    (hm : (∀ (y : Int32) (H : Heap) (locs : List Loc) (ls : Array Slot), y = v → va_P D cl ws H → va_S A H0 H locs → lv_has ls nL lv → W p l e R s m args below meth c H locs cells slots Q (F0 m J ls (.int y :: rst))) → W p l e R s m args below meth c H locs cells slots Q g) : W p l e R s m args below meth c H locs cells slots Q g :=
  hm (fun y H locs ls hy hP hS hl => by subst hy; exact hj H locs ls hP hS hl)
theorem tb_in {dflt lo hi : Int} {offs : Array Int} {len : Nat} {x k : Int32} {off : Int} {tgt : Nat} (hexec : p.tables.exec = Jvm.exec) (hb : c.code = cc) (hdg : decode cc pc = .ok (.tableswitch dflt lo hi offs, len)) (hk : x = k) (h1 : ¬ k.toInt < lo) (h2 : ¬ hi < k.toInt) (ho : offs[(k.toInt - lo).toNat]? = some off) (ht : (pc : Int) + off = (tgt : Int))
    (kk : W p l e R s m args below meth c H locs cells slots Q (F0 m tgt ls rest)) : W p l e R s m args below meth c H locs cells slots Q (F0 m pc ls (.int x :: rest)) := by
  subst hk
  exact lv_tableIn hexec hb hdg h1 h2 ho ht kk
theorem lk_in {dflt : Int} {ps : Array (Int × Int)} {len : Nat} {x k : Int32} {off : Int} {tgt : Nat} (hexec : p.tables.exec = Jvm.exec) (hb : c.code = cc) (hdg : decode cc pc = .ok (.lookupswitch dflt ps, len)) (hk : x = k) (hp : (ps.toList.zip (ps.toList.drop 1)).all (fun (a, next) => a.1 < next.1) = true) (ho : Op.lookupswitch.offset ps.toList dflt k.toInt = off) (ht : (pc : Int) + off = (tgt : Int))
    (kk : W p l e R s m args below meth c H locs cells slots Q (F0 m tgt ls rest)) : W p l e R s m args below meth c H locs cells slots Q (F0 m pc ls (.int x :: rest)) := by
  subst hk
  exact lv_lookup hexec hb hdg hp ho ht kk
theorem lk_out {dflt : Int} {ps : Array (Int × Int)} {len : Nat} {x : Int32} {off : Int} {tgt : Nat} (hexec : p.tables.exec = Jvm.exec) (hb : c.code = cc) (hdg : decode cc pc = .ok (.lookupswitch dflt ps, len)) (hp : (ps.toList.zip (ps.toList.drop 1)).all (fun (a, next) => a.1 < next.1) = true) (ho : Op.lookupswitch.offset ps.toList dflt x.toInt = off) (ht : (pc : Int) + off = (tgt : Int))
    (kk : W p l e R s m args below meth c H locs cells slots Q (F0 m tgt ls rest)) : W p l e R s m args below meth c H locs cells slots Q (F0 m pc ls (.int x :: rest)) :=
  lv_lookup hexec hb hdg hp ho ht kk
end OWNROWS
section OWNLOOP
variable {p : Program} {l : Launch} {e : Env} {R : Room} {s : State} {m : MethodId} {args : Array Value} {below : List Frame} {meth : Method} {c : Code} {H : Heap} {locs : List Loc} {cells slots : Nat} {Q : State → Prop}
variable {D : va_G} {cl : List vw_C} {A : Nat → Prop} {H0 : Heap} {nL : Nat}
/-- a loop at h, its variables a tuple, its measure n -/
theorem jn_lp {σ : Type} {g : JFrame} (h : Nat) (lvf : σ → List (Nat × Value)) (wsf : σ → va_W) (I : Nat → σ → Prop) (h0 : ∀ x, ¬ I 0 x)
    (hs : ∀ (n : Nat), (∀ (x : σ) (H : Heap) (locs : List Loc) (ls : Array Slot), I n x → va_P D cl (wsf x) H → va_D A (wsf x) → va_S A H0 H locs → lv_has ls nL (lvf x) → W p l e R s m args below meth c H locs cells slots Q (F0 m h ls [])) →
      ∀ (x : σ) (H : Heap) (locs : List Loc) (ls : Array Slot), I (n + 1) x → va_P D cl (wsf x) H → va_D A (wsf x) → va_S A H0 H locs → lv_has ls nL (lvf x) → W p l e R s m args below meth c H locs cells slots Q (F0 m h ls []))
    (hm : (∀ (n : Nat) (x : σ) (H : Heap) (locs : List Loc) (ls : Array Slot), I n x → va_P D cl (wsf x) H → va_D A (wsf x) → va_S A H0 H locs → lv_has ls nL (lvf x) → W p l e R s m args below meth c H locs cells slots Q (F0 m h ls [])) → W p l e R s m args below meth c H locs cells slots Q g) : W p l e R s m args below meth c H locs cells slots Q g := by
  refine hm ?_
  intro n
  induction n with
  | zero => intro x H locs ls hI; exact absurd hI (h0 x)
  | succ n ih => exact hs n ih
end OWNLOOP
/-- a sum over an array, each element times its place and 1 -/
def wsum (f : Nat → Int32) : Nat → Int32
  | 0 => 0
  | n + 1 => wsum f n + f n * (nI n + 1)
/-- how many of the lowest k bits are 1 -/
def ones (v : Int32) : Nat → Int32
  | 0 => 0
  | k + 1 => ones v k + ((v >>> (nI k &&& 31)) &&& 1)
/-- the first n places become those behind them -/
def shf (f : Nat → Int32) : Nat → Nat → Int32
  | 0 => f
  | n + 1 => upd (shf f n) n (shf f n (n + 1))
theorem clamp_lt (x : Int32) : x.toNatClampNeg < 2 ^ 31 := by
  have h := Int32.toInt_lt x
  show x.toInt.toNat < 2 ^ 31
  omega
abbrev FS : Type := Bool × Bool × Bool × Bool × Bool
def gFS_s (u : FS) : Bool := u.1
def sFS_s (u : FS) (v : Bool) : FS := (v, u.2)
def gFS_z (u : FS) : Bool := u.2.1
def sFS_z (u : FS) (v : Bool) : FS := (u.1, v, u.2.2)
def gFS_h (u : FS) : Bool := u.2.2.1
def sFS_h (u : FS) (v : Bool) : FS := (u.1, u.2.1, v, u.2.2.2)
def gFS_p (u : FS) : Bool := u.2.2.2.1
def sFS_p (u : FS) (v : Bool) : FS := (u.1, u.2.1, u.2.2.1, v, u.2.2.2.2)
def gFS_c (u : FS) : Bool := u.2.2.2.2
def sFS_c (u : FS) (v : Bool) : FS := (u.1, u.2.1, u.2.2.1, u.2.2.2.1, v)
abbrev CS : Type := (Nat → Int32) × Int32 × Int32 × (Nat → Int32) × Int32
def gCS_inp (u : CS) : (Nat → Int32) := u.1
def sCS_inp (u : CS) (v : (Nat → Int32)) : CS := (v, u.2)
def gCS_fst (u : CS) : Int32 := u.2.1
def sCS_fst (u : CS) (v : Int32) : CS := (u.1, v, u.2.2)
def gCS_cnt (u : CS) : Int32 := u.2.2.1
def sCS_cnt (u : CS) (v : Int32) : CS := (u.1, u.2.1, v, u.2.2.2)
def gCS_out (u : CS) : (Nat → Int32) := u.2.2.2.1
def sCS_out (u : CS) (v : (Nat → Int32)) : CS := (u.1, u.2.1, u.2.2.1, v, u.2.2.2.2)
def gCS_oc (u : CS) : Int32 := u.2.2.2.2
def sCS_oc (u : CS) (v : Int32) : CS := (u.1, u.2.1, u.2.2.1, u.2.2.2.1, v)
abbrev KS : Type := Int32 × Int32 × Int32 × Int32 × Int32 × Bool × Int32 × Int32 × Bool
def gKS_sec (u : KS) : Int32 := u.1
def sKS_sec (u : KS) (v : Int32) : KS := (v, u.2)
def gKS_adr (u : KS) : Int32 := u.2.1
def sKS_adr (u : KS) (v : Int32) : KS := (u.1, v, u.2.2)
def gKS_call (u : KS) : Int32 := u.2.2.1
def sKS_call (u : KS) (v : Int32) : KS := (u.1, u.2.1, v, u.2.2.2)
def gKS_st (u : KS) : Int32 := u.2.2.2.1
def sKS_st (u : KS) (v : Int32) : KS := (u.1, u.2.1, u.2.2.1, v, u.2.2.2.2)
def gKS_start (u : KS) : Int32 := u.2.2.2.2.1
def sKS_start (u : KS) (v : Int32) : KS := (u.1, u.2.1, u.2.2.1, u.2.2.2.1, v, u.2.2.2.2.2)
def gKS_toD (u : KS) : Bool := u.2.2.2.2.2.1
def sKS_toD (u : KS) (v : Bool) : KS := (u.1, u.2.1, u.2.2.1, u.2.2.2.1, u.2.2.2.2.1, v, u.2.2.2.2.2.2)
def gKS_mov (u : KS) : Int32 := u.2.2.2.2.2.2.1
def sKS_mov (u : KS) (v : Int32) : KS := (u.1, u.2.1, u.2.2.1, u.2.2.2.1, u.2.2.2.2.1, u.2.2.2.2.2.1, v, u.2.2.2.2.2.2.2)
def gKS_left (u : KS) : Int32 := u.2.2.2.2.2.2.2.1
def sKS_left (u : KS) (v : Int32) : KS := (u.1, u.2.1, u.2.2.1, u.2.2.2.1, u.2.2.2.2.1, u.2.2.2.2.2.1, u.2.2.2.2.2.2.1, v, u.2.2.2.2.2.2.2.2)
def gKS_just (u : KS) : Bool := u.2.2.2.2.2.2.2.2
def sKS_just (u : KS) (v : Bool) : KS := (u.1, u.2.1, u.2.2.1, u.2.2.2.1, u.2.2.2.2.1, u.2.2.2.2.2.1, u.2.2.2.2.2.2.1, u.2.2.2.2.2.2.2.1, v)
abbrev PS : Type := (Nat → Int32) × Int32 × Int32 × Bool × Bool × Bool × Int32 × Int64
def gPS_r (u : PS) : (Nat → Int32) := u.1
def sPS_r (u : PS) (v : (Nat → Int32)) : PS := (v, u.2)
def gPS_pc (u : PS) : Int32 := u.2.1
def sPS_pc (u : PS) (v : Int32) : PS := (u.1, v, u.2.2)
def gPS_sp (u : PS) : Int32 := u.2.2.1
def sPS_sp (u : PS) (v : Int32) : PS := (u.1, u.2.1, v, u.2.2.2)
def gPS_hlt (u : PS) : Bool := u.2.2.2.1
def sPS_hlt (u : PS) (v : Bool) : PS := (u.1, u.2.1, u.2.2.1, v, u.2.2.2.2)
def gPS_on (u : PS) : Bool := u.2.2.2.2.1
def sPS_on (u : PS) (v : Bool) : PS := (u.1, u.2.1, u.2.2.1, u.2.2.2.1, v, u.2.2.2.2.2)
def gPS_jon (u : PS) : Bool := u.2.2.2.2.2.1
def sPS_jon (u : PS) (v : Bool) : PS := (u.1, u.2.1, u.2.2.1, u.2.2.2.1, u.2.2.2.2.1, v, u.2.2.2.2.2.2)
def gPS_want (u : PS) : Int32 := u.2.2.2.2.2.2.1
def sPS_want (u : PS) (v : Int32) : PS := (u.1, u.2.1, u.2.2.1, u.2.2.2.1, u.2.2.2.2.1, u.2.2.2.2.2.1, v, u.2.2.2.2.2.2.2)
def gPS_cyc (u : PS) : Int64 := u.2.2.2.2.2.2.2
def sPS_cyc (u : PS) (v : Int64) : PS := (u.1, u.2.1, u.2.2.1, u.2.2.2.1, u.2.2.2.2.1, u.2.2.2.2.2.1, u.2.2.2.2.2.2.1, v)
abbrev KW : Type := KS × (Nat → Int32) × (Nat → Int32)
def gKW_K (u : KW) : KS := u.1
def sKW_K (u : KW) (v : KS) : KW := (v, u.2)
def gKW_m (u : KW) : (Nat → Int32) := u.2.1
def sKW_m (u : KW) (v : (Nat → Int32)) : KW := (u.1, v, u.2.2)
def gKW_d (u : KW) : (Nat → Int32) := u.2.2
def sKW_d (u : KW) (v : (Nat → Int32)) : KW := (u.1, u.2.1, v)
abbrev PW : Type := PS × (Nat → Int32) × (Nat → Int32) × CS × KS × FS
def gPW_P (u : PW) : PS := u.1
def sPW_P (u : PW) (v : PS) : PW := (v, u.2)
def gPW_m (u : PW) : (Nat → Int32) := u.2.1
def sPW_m (u : PW) (v : (Nat → Int32)) : PW := (u.1, v, u.2.2)
def gPW_d (u : PW) : (Nat → Int32) := u.2.2.1
def sPW_d (u : PW) (v : (Nat → Int32)) : PW := (u.1, u.2.1, v, u.2.2.2)
def gPW_C (u : PW) : CS := u.2.2.2.1
def sPW_C (u : PW) (v : CS) : PW := (u.1, u.2.1, u.2.2.1, v, u.2.2.2.2)
def gPW_K (u : PW) : KS := u.2.2.2.2.1
def sPW_K (u : PW) (v : KS) : PW := (u.1, u.2.1, u.2.2.1, u.2.2.2.1, v, u.2.2.2.2.2)
def gPW_F (u : PW) : FS := u.2.2.2.2.2
def sPW_F (u : PW) (v : FS) : PW := (u.1, u.2.1, u.2.2.1, u.2.2.2.1, u.2.2.2.2.1, v)
abbrev MW : Type := Int32 × (Nat → Int32) × (Nat → Int32) × (Nat → Int32) × Bool × Bool × Bool × Bool × Bool × Int32 × Int32 × Bool × Bool × Bool × Int32 × Int64 × Int32 × (Nat → Int32) × Int32 × (Nat → Int32) × Int32 × Int32 × Int32 × Int32 × Int32 × Int32 × Int32 × Int32 × Int32 × Bool
def gMW_thr (u : MW) : Int32 := u.1
def sMW_thr (u : MW) (v : Int32) : MW := (v, u.2)
def gMW_m (u : MW) : (Nat → Int32) := u.2.1
def sMW_m (u : MW) (v : (Nat → Int32)) : MW := (u.1, v, u.2.2)
def gMW_d (u : MW) : (Nat → Int32) := u.2.2.1
def sMW_d (u : MW) (v : (Nat → Int32)) : MW := (u.1, u.2.1, v, u.2.2.2)
def gMW_r (u : MW) : (Nat → Int32) := u.2.2.2.1
def sMW_r (u : MW) (v : (Nat → Int32)) : MW := (u.1, u.2.1, u.2.2.1, v, u.2.2.2.2)
def gMW_s (u : MW) : Bool := u.2.2.2.2.1
def sMW_s (u : MW) (v : Bool) : MW := (u.1, u.2.1, u.2.2.1, u.2.2.2.1, v, u.2.2.2.2.2)
def gMW_z (u : MW) : Bool := u.2.2.2.2.2.1
def sMW_z (u : MW) (v : Bool) : MW := (u.1, u.2.1, u.2.2.1, u.2.2.2.1, u.2.2.2.2.1, v, u.2.2.2.2.2.2)
def gMW_h (u : MW) : Bool := u.2.2.2.2.2.2.1
def sMW_h (u : MW) (v : Bool) : MW := (u.1, u.2.1, u.2.2.1, u.2.2.2.1, u.2.2.2.2.1, u.2.2.2.2.2.1, v, u.2.2.2.2.2.2.2)
def gMW_p (u : MW) : Bool := u.2.2.2.2.2.2.2.1
def sMW_p (u : MW) (v : Bool) : MW := (u.1, u.2.1, u.2.2.1, u.2.2.2.1, u.2.2.2.2.1, u.2.2.2.2.2.1, u.2.2.2.2.2.2.1, v, u.2.2.2.2.2.2.2.2)
def gMW_c (u : MW) : Bool := u.2.2.2.2.2.2.2.2.1
def sMW_c (u : MW) (v : Bool) : MW := (u.1, u.2.1, u.2.2.1, u.2.2.2.1, u.2.2.2.2.1, u.2.2.2.2.2.1, u.2.2.2.2.2.2.1, u.2.2.2.2.2.2.2.1, v, u.2.2.2.2.2.2.2.2.2)
def gMW_pc (u : MW) : Int32 := u.2.2.2.2.2.2.2.2.2.1
def sMW_pc (u : MW) (v : Int32) : MW := (u.1, u.2.1, u.2.2.1, u.2.2.2.1, u.2.2.2.2.1, u.2.2.2.2.2.1, u.2.2.2.2.2.2.1, u.2.2.2.2.2.2.2.1, u.2.2.2.2.2.2.2.2.1, v, u.2.2.2.2.2.2.2.2.2.2)
def gMW_sp (u : MW) : Int32 := u.2.2.2.2.2.2.2.2.2.2.1
def sMW_sp (u : MW) (v : Int32) : MW := (u.1, u.2.1, u.2.2.1, u.2.2.2.1, u.2.2.2.2.1, u.2.2.2.2.2.1, u.2.2.2.2.2.2.1, u.2.2.2.2.2.2.2.1, u.2.2.2.2.2.2.2.2.1, u.2.2.2.2.2.2.2.2.2.1, v, u.2.2.2.2.2.2.2.2.2.2.2)
def gMW_hlt (u : MW) : Bool := u.2.2.2.2.2.2.2.2.2.2.2.1
def sMW_hlt (u : MW) (v : Bool) : MW := (u.1, u.2.1, u.2.2.1, u.2.2.2.1, u.2.2.2.2.1, u.2.2.2.2.2.1, u.2.2.2.2.2.2.1, u.2.2.2.2.2.2.2.1, u.2.2.2.2.2.2.2.2.1, u.2.2.2.2.2.2.2.2.2.1, u.2.2.2.2.2.2.2.2.2.2.1, v, u.2.2.2.2.2.2.2.2.2.2.2.2)
def gMW_on (u : MW) : Bool := u.2.2.2.2.2.2.2.2.2.2.2.2.1
def sMW_on (u : MW) (v : Bool) : MW := (u.1, u.2.1, u.2.2.1, u.2.2.2.1, u.2.2.2.2.1, u.2.2.2.2.2.1, u.2.2.2.2.2.2.1, u.2.2.2.2.2.2.2.1, u.2.2.2.2.2.2.2.2.1, u.2.2.2.2.2.2.2.2.2.1, u.2.2.2.2.2.2.2.2.2.2.1, u.2.2.2.2.2.2.2.2.2.2.2.1, v, u.2.2.2.2.2.2.2.2.2.2.2.2.2)
def gMW_jon (u : MW) : Bool := u.2.2.2.2.2.2.2.2.2.2.2.2.2.1
def sMW_jon (u : MW) (v : Bool) : MW := (u.1, u.2.1, u.2.2.1, u.2.2.2.1, u.2.2.2.2.1, u.2.2.2.2.2.1, u.2.2.2.2.2.2.1, u.2.2.2.2.2.2.2.1, u.2.2.2.2.2.2.2.2.1, u.2.2.2.2.2.2.2.2.2.1, u.2.2.2.2.2.2.2.2.2.2.1, u.2.2.2.2.2.2.2.2.2.2.2.1, u.2.2.2.2.2.2.2.2.2.2.2.2.1, v, u.2.2.2.2.2.2.2.2.2.2.2.2.2.2)
def gMW_want (u : MW) : Int32 := u.2.2.2.2.2.2.2.2.2.2.2.2.2.2.1
def sMW_want (u : MW) (v : Int32) : MW := (u.1, u.2.1, u.2.2.1, u.2.2.2.1, u.2.2.2.2.1, u.2.2.2.2.2.1, u.2.2.2.2.2.2.1, u.2.2.2.2.2.2.2.1, u.2.2.2.2.2.2.2.2.1, u.2.2.2.2.2.2.2.2.2.1, u.2.2.2.2.2.2.2.2.2.2.1, u.2.2.2.2.2.2.2.2.2.2.2.1, u.2.2.2.2.2.2.2.2.2.2.2.2.1, u.2.2.2.2.2.2.2.2.2.2.2.2.2.1, v, u.2.2.2.2.2.2.2.2.2.2.2.2.2.2.2)
def gMW_cyc (u : MW) : Int64 := u.2.2.2.2.2.2.2.2.2.2.2.2.2.2.2.1
def sMW_cyc (u : MW) (v : Int64) : MW := (u.1, u.2.1, u.2.2.1, u.2.2.2.1, u.2.2.2.2.1, u.2.2.2.2.2.1, u.2.2.2.2.2.2.1, u.2.2.2.2.2.2.2.1, u.2.2.2.2.2.2.2.2.1, u.2.2.2.2.2.2.2.2.2.1, u.2.2.2.2.2.2.2.2.2.2.1, u.2.2.2.2.2.2.2.2.2.2.2.1, u.2.2.2.2.2.2.2.2.2.2.2.2.1, u.2.2.2.2.2.2.2.2.2.2.2.2.2.1, u.2.2.2.2.2.2.2.2.2.2.2.2.2.2.1, v, u.2.2.2.2.2.2.2.2.2.2.2.2.2.2.2.2)
def gMW_spent (u : MW) : Int32 := u.2.2.2.2.2.2.2.2.2.2.2.2.2.2.2.2.1
def sMW_spent (u : MW) (v : Int32) : MW := (u.1, u.2.1, u.2.2.1, u.2.2.2.1, u.2.2.2.2.1, u.2.2.2.2.2.1, u.2.2.2.2.2.2.1, u.2.2.2.2.2.2.2.1, u.2.2.2.2.2.2.2.2.1, u.2.2.2.2.2.2.2.2.2.1, u.2.2.2.2.2.2.2.2.2.2.1, u.2.2.2.2.2.2.2.2.2.2.2.1, u.2.2.2.2.2.2.2.2.2.2.2.2.1, u.2.2.2.2.2.2.2.2.2.2.2.2.2.1, u.2.2.2.2.2.2.2.2.2.2.2.2.2.2.1, u.2.2.2.2.2.2.2.2.2.2.2.2.2.2.2.1, v, u.2.2.2.2.2.2.2.2.2.2.2.2.2.2.2.2.2)
def gMW_inp (u : MW) : (Nat → Int32) := u.2.2.2.2.2.2.2.2.2.2.2.2.2.2.2.2.2.1
def sMW_inp (u : MW) (v : (Nat → Int32)) : MW := (u.1, u.2.1, u.2.2.1, u.2.2.2.1, u.2.2.2.2.1, u.2.2.2.2.2.1, u.2.2.2.2.2.2.1, u.2.2.2.2.2.2.2.1, u.2.2.2.2.2.2.2.2.1, u.2.2.2.2.2.2.2.2.2.1, u.2.2.2.2.2.2.2.2.2.2.1, u.2.2.2.2.2.2.2.2.2.2.2.1, u.2.2.2.2.2.2.2.2.2.2.2.2.1, u.2.2.2.2.2.2.2.2.2.2.2.2.2.1, u.2.2.2.2.2.2.2.2.2.2.2.2.2.2.1, u.2.2.2.2.2.2.2.2.2.2.2.2.2.2.2.1, u.2.2.2.2.2.2.2.2.2.2.2.2.2.2.2.2.1, v, u.2.2.2.2.2.2.2.2.2.2.2.2.2.2.2.2.2.2)
def gMW_ins (u : MW) : Int32 := u.2.2.2.2.2.2.2.2.2.2.2.2.2.2.2.2.2.2.1
def sMW_ins (u : MW) (v : Int32) : MW := (u.1, u.2.1, u.2.2.1, u.2.2.2.1, u.2.2.2.2.1, u.2.2.2.2.2.1, u.2.2.2.2.2.2.1, u.2.2.2.2.2.2.2.1, u.2.2.2.2.2.2.2.2.1, u.2.2.2.2.2.2.2.2.2.1, u.2.2.2.2.2.2.2.2.2.2.1, u.2.2.2.2.2.2.2.2.2.2.2.1, u.2.2.2.2.2.2.2.2.2.2.2.2.1, u.2.2.2.2.2.2.2.2.2.2.2.2.2.1, u.2.2.2.2.2.2.2.2.2.2.2.2.2.2.1, u.2.2.2.2.2.2.2.2.2.2.2.2.2.2.2.1, u.2.2.2.2.2.2.2.2.2.2.2.2.2.2.2.2.1, u.2.2.2.2.2.2.2.2.2.2.2.2.2.2.2.2.2.1, v, u.2.2.2.2.2.2.2.2.2.2.2.2.2.2.2.2.2.2.2)
def gMW_out (u : MW) : (Nat → Int32) := u.2.2.2.2.2.2.2.2.2.2.2.2.2.2.2.2.2.2.2.1
def sMW_out (u : MW) (v : (Nat → Int32)) : MW := (u.1, u.2.1, u.2.2.1, u.2.2.2.1, u.2.2.2.2.1, u.2.2.2.2.2.1, u.2.2.2.2.2.2.1, u.2.2.2.2.2.2.2.1, u.2.2.2.2.2.2.2.2.1, u.2.2.2.2.2.2.2.2.2.1, u.2.2.2.2.2.2.2.2.2.2.1, u.2.2.2.2.2.2.2.2.2.2.2.1, u.2.2.2.2.2.2.2.2.2.2.2.2.1, u.2.2.2.2.2.2.2.2.2.2.2.2.2.1, u.2.2.2.2.2.2.2.2.2.2.2.2.2.2.1, u.2.2.2.2.2.2.2.2.2.2.2.2.2.2.2.1, u.2.2.2.2.2.2.2.2.2.2.2.2.2.2.2.2.1, u.2.2.2.2.2.2.2.2.2.2.2.2.2.2.2.2.2.1, u.2.2.2.2.2.2.2.2.2.2.2.2.2.2.2.2.2.2.1, v, u.2.2.2.2.2.2.2.2.2.2.2.2.2.2.2.2.2.2.2.2)
def gMW_outs (u : MW) : Int32 := u.2.2.2.2.2.2.2.2.2.2.2.2.2.2.2.2.2.2.2.2.1
def sMW_outs (u : MW) (v : Int32) : MW := (u.1, u.2.1, u.2.2.1, u.2.2.2.1, u.2.2.2.2.1, u.2.2.2.2.2.1, u.2.2.2.2.2.2.1, u.2.2.2.2.2.2.2.1, u.2.2.2.2.2.2.2.2.1, u.2.2.2.2.2.2.2.2.2.1, u.2.2.2.2.2.2.2.2.2.2.1, u.2.2.2.2.2.2.2.2.2.2.2.1, u.2.2.2.2.2.2.2.2.2.2.2.2.1, u.2.2.2.2.2.2.2.2.2.2.2.2.2.1, u.2.2.2.2.2.2.2.2.2.2.2.2.2.2.1, u.2.2.2.2.2.2.2.2.2.2.2.2.2.2.2.1, u.2.2.2.2.2.2.2.2.2.2.2.2.2.2.2.2.1, u.2.2.2.2.2.2.2.2.2.2.2.2.2.2.2.2.2.1, u.2.2.2.2.2.2.2.2.2.2.2.2.2.2.2.2.2.2.1, u.2.2.2.2.2.2.2.2.2.2.2.2.2.2.2.2.2.2.2.1, v, u.2.2.2.2.2.2.2.2.2.2.2.2.2.2.2.2.2.2.2.2.2)
def gMW_sec (u : MW) : Int32 := u.2.2.2.2.2.2.2.2.2.2.2.2.2.2.2.2.2.2.2.2.2.1
def sMW_sec (u : MW) (v : Int32) : MW := (u.1, u.2.1, u.2.2.1, u.2.2.2.1, u.2.2.2.2.1, u.2.2.2.2.2.1, u.2.2.2.2.2.2.1, u.2.2.2.2.2.2.2.1, u.2.2.2.2.2.2.2.2.1, u.2.2.2.2.2.2.2.2.2.1, u.2.2.2.2.2.2.2.2.2.2.1, u.2.2.2.2.2.2.2.2.2.2.2.1, u.2.2.2.2.2.2.2.2.2.2.2.2.1, u.2.2.2.2.2.2.2.2.2.2.2.2.2.1, u.2.2.2.2.2.2.2.2.2.2.2.2.2.2.1, u.2.2.2.2.2.2.2.2.2.2.2.2.2.2.2.1, u.2.2.2.2.2.2.2.2.2.2.2.2.2.2.2.2.1, u.2.2.2.2.2.2.2.2.2.2.2.2.2.2.2.2.2.1, u.2.2.2.2.2.2.2.2.2.2.2.2.2.2.2.2.2.2.1, u.2.2.2.2.2.2.2.2.2.2.2.2.2.2.2.2.2.2.2.1, u.2.2.2.2.2.2.2.2.2.2.2.2.2.2.2.2.2.2.2.2.1, v, u.2.2.2.2.2.2.2.2.2.2.2.2.2.2.2.2.2.2.2.2.2.2)
def gMW_adr (u : MW) : Int32 := u.2.2.2.2.2.2.2.2.2.2.2.2.2.2.2.2.2.2.2.2.2.2.1
def sMW_adr (u : MW) (v : Int32) : MW := (u.1, u.2.1, u.2.2.1, u.2.2.2.1, u.2.2.2.2.1, u.2.2.2.2.2.1, u.2.2.2.2.2.2.1, u.2.2.2.2.2.2.2.1, u.2.2.2.2.2.2.2.2.1, u.2.2.2.2.2.2.2.2.2.1, u.2.2.2.2.2.2.2.2.2.2.1, u.2.2.2.2.2.2.2.2.2.2.2.1, u.2.2.2.2.2.2.2.2.2.2.2.2.1, u.2.2.2.2.2.2.2.2.2.2.2.2.2.1, u.2.2.2.2.2.2.2.2.2.2.2.2.2.2.1, u.2.2.2.2.2.2.2.2.2.2.2.2.2.2.2.1, u.2.2.2.2.2.2.2.2.2.2.2.2.2.2.2.2.1, u.2.2.2.2.2.2.2.2.2.2.2.2.2.2.2.2.2.1, u.2.2.2.2.2.2.2.2.2.2.2.2.2.2.2.2.2.2.1, u.2.2.2.2.2.2.2.2.2.2.2.2.2.2.2.2.2.2.2.1, u.2.2.2.2.2.2.2.2.2.2.2.2.2.2.2.2.2.2.2.2.1, u.2.2.2.2.2.2.2.2.2.2.2.2.2.2.2.2.2.2.2.2.2.1, v, u.2.2.2.2.2.2.2.2.2.2.2.2.2.2.2.2.2.2.2.2.2.2.2)
def gMW_call (u : MW) : Int32 := u.2.2.2.2.2.2.2.2.2.2.2.2.2.2.2.2.2.2.2.2.2.2.2.1
def sMW_call (u : MW) (v : Int32) : MW := (u.1, u.2.1, u.2.2.1, u.2.2.2.1, u.2.2.2.2.1, u.2.2.2.2.2.1, u.2.2.2.2.2.2.1, u.2.2.2.2.2.2.2.1, u.2.2.2.2.2.2.2.2.1, u.2.2.2.2.2.2.2.2.2.1, u.2.2.2.2.2.2.2.2.2.2.1, u.2.2.2.2.2.2.2.2.2.2.2.1, u.2.2.2.2.2.2.2.2.2.2.2.2.1, u.2.2.2.2.2.2.2.2.2.2.2.2.2.1, u.2.2.2.2.2.2.2.2.2.2.2.2.2.2.1, u.2.2.2.2.2.2.2.2.2.2.2.2.2.2.2.1, u.2.2.2.2.2.2.2.2.2.2.2.2.2.2.2.2.1, u.2.2.2.2.2.2.2.2.2.2.2.2.2.2.2.2.2.1, u.2.2.2.2.2.2.2.2.2.2.2.2.2.2.2.2.2.2.1, u.2.2.2.2.2.2.2.2.2.2.2.2.2.2.2.2.2.2.2.1, u.2.2.2.2.2.2.2.2.2.2.2.2.2.2.2.2.2.2.2.2.1, u.2.2.2.2.2.2.2.2.2.2.2.2.2.2.2.2.2.2.2.2.2.1, u.2.2.2.2.2.2.2.2.2.2.2.2.2.2.2.2.2.2.2.2.2.2.1, v, u.2.2.2.2.2.2.2.2.2.2.2.2.2.2.2.2.2.2.2.2.2.2.2.2)
def gMW_st (u : MW) : Int32 := u.2.2.2.2.2.2.2.2.2.2.2.2.2.2.2.2.2.2.2.2.2.2.2.2.1
def sMW_st (u : MW) (v : Int32) : MW := (u.1, u.2.1, u.2.2.1, u.2.2.2.1, u.2.2.2.2.1, u.2.2.2.2.2.1, u.2.2.2.2.2.2.1, u.2.2.2.2.2.2.2.1, u.2.2.2.2.2.2.2.2.1, u.2.2.2.2.2.2.2.2.2.1, u.2.2.2.2.2.2.2.2.2.2.1, u.2.2.2.2.2.2.2.2.2.2.2.1, u.2.2.2.2.2.2.2.2.2.2.2.2.1, u.2.2.2.2.2.2.2.2.2.2.2.2.2.1, u.2.2.2.2.2.2.2.2.2.2.2.2.2.2.1, u.2.2.2.2.2.2.2.2.2.2.2.2.2.2.2.1, u.2.2.2.2.2.2.2.2.2.2.2.2.2.2.2.2.1, u.2.2.2.2.2.2.2.2.2.2.2.2.2.2.2.2.2.1, u.2.2.2.2.2.2.2.2.2.2.2.2.2.2.2.2.2.2.1, u.2.2.2.2.2.2.2.2.2.2.2.2.2.2.2.2.2.2.2.1, u.2.2.2.2.2.2.2.2.2.2.2.2.2.2.2.2.2.2.2.2.1, u.2.2.2.2.2.2.2.2.2.2.2.2.2.2.2.2.2.2.2.2.2.1, u.2.2.2.2.2.2.2.2.2.2.2.2.2.2.2.2.2.2.2.2.2.2.1, u.2.2.2.2.2.2.2.2.2.2.2.2.2.2.2.2.2.2.2.2.2.2.2.1, v, u.2.2.2.2.2.2.2.2.2.2.2.2.2.2.2.2.2.2.2.2.2.2.2.2.2)
def gMW_cmd (u : MW) : Int32 := u.2.2.2.2.2.2.2.2.2.2.2.2.2.2.2.2.2.2.2.2.2.2.2.2.2.1
def sMW_cmd (u : MW) (v : Int32) : MW := (u.1, u.2.1, u.2.2.1, u.2.2.2.1, u.2.2.2.2.1, u.2.2.2.2.2.1, u.2.2.2.2.2.2.1, u.2.2.2.2.2.2.2.1, u.2.2.2.2.2.2.2.2.1, u.2.2.2.2.2.2.2.2.2.1, u.2.2.2.2.2.2.2.2.2.2.1, u.2.2.2.2.2.2.2.2.2.2.2.1, u.2.2.2.2.2.2.2.2.2.2.2.2.1, u.2.2.2.2.2.2.2.2.2.2.2.2.2.1, u.2.2.2.2.2.2.2.2.2.2.2.2.2.2.1, u.2.2.2.2.2.2.2.2.2.2.2.2.2.2.2.1, u.2.2.2.2.2.2.2.2.2.2.2.2.2.2.2.2.1, u.2.2.2.2.2.2.2.2.2.2.2.2.2.2.2.2.2.1, u.2.2.2.2.2.2.2.2.2.2.2.2.2.2.2.2.2.2.1, u.2.2.2.2.2.2.2.2.2.2.2.2.2.2.2.2.2.2.2.1, u.2.2.2.2.2.2.2.2.2.2.2.2.2.2.2.2.2.2.2.2.1, u.2.2.2.2.2.2.2.2.2.2.2.2.2.2.2.2.2.2.2.2.2.1, u.2.2.2.2.2.2.2.2.2.2.2.2.2.2.2.2.2.2.2.2.2.2.1, u.2.2.2.2.2.2.2.2.2.2.2.2.2.2.2.2.2.2.2.2.2.2.2.1, u.2.2.2.2.2.2.2.2.2.2.2.2.2.2.2.2.2.2.2.2.2.2.2.2.1, v, u.2.2.2.2.2.2.2.2.2.2.2.2.2.2.2.2.2.2.2.2.2.2.2.2.2.2)
def gMW_frm (u : MW) : Int32 := u.2.2.2.2.2.2.2.2.2.2.2.2.2.2.2.2.2.2.2.2.2.2.2.2.2.2.1
def sMW_frm (u : MW) (v : Int32) : MW := (u.1, u.2.1, u.2.2.1, u.2.2.2.1, u.2.2.2.2.1, u.2.2.2.2.2.1, u.2.2.2.2.2.2.1, u.2.2.2.2.2.2.2.1, u.2.2.2.2.2.2.2.2.1, u.2.2.2.2.2.2.2.2.2.1, u.2.2.2.2.2.2.2.2.2.2.1, u.2.2.2.2.2.2.2.2.2.2.2.1, u.2.2.2.2.2.2.2.2.2.2.2.2.1, u.2.2.2.2.2.2.2.2.2.2.2.2.2.1, u.2.2.2.2.2.2.2.2.2.2.2.2.2.2.1, u.2.2.2.2.2.2.2.2.2.2.2.2.2.2.2.1, u.2.2.2.2.2.2.2.2.2.2.2.2.2.2.2.2.1, u.2.2.2.2.2.2.2.2.2.2.2.2.2.2.2.2.2.1, u.2.2.2.2.2.2.2.2.2.2.2.2.2.2.2.2.2.2.1, u.2.2.2.2.2.2.2.2.2.2.2.2.2.2.2.2.2.2.2.1, u.2.2.2.2.2.2.2.2.2.2.2.2.2.2.2.2.2.2.2.2.1, u.2.2.2.2.2.2.2.2.2.2.2.2.2.2.2.2.2.2.2.2.2.1, u.2.2.2.2.2.2.2.2.2.2.2.2.2.2.2.2.2.2.2.2.2.2.1, u.2.2.2.2.2.2.2.2.2.2.2.2.2.2.2.2.2.2.2.2.2.2.2.1, u.2.2.2.2.2.2.2.2.2.2.2.2.2.2.2.2.2.2.2.2.2.2.2.2.1, u.2.2.2.2.2.2.2.2.2.2.2.2.2.2.2.2.2.2.2.2.2.2.2.2.2.1, v, u.2.2.2.2.2.2.2.2.2.2.2.2.2.2.2.2.2.2.2.2.2.2.2.2.2.2.2)
def gMW_mov (u : MW) : Int32 := u.2.2.2.2.2.2.2.2.2.2.2.2.2.2.2.2.2.2.2.2.2.2.2.2.2.2.2.1
def sMW_mov (u : MW) (v : Int32) : MW := (u.1, u.2.1, u.2.2.1, u.2.2.2.1, u.2.2.2.2.1, u.2.2.2.2.2.1, u.2.2.2.2.2.2.1, u.2.2.2.2.2.2.2.1, u.2.2.2.2.2.2.2.2.1, u.2.2.2.2.2.2.2.2.2.1, u.2.2.2.2.2.2.2.2.2.2.1, u.2.2.2.2.2.2.2.2.2.2.2.1, u.2.2.2.2.2.2.2.2.2.2.2.2.1, u.2.2.2.2.2.2.2.2.2.2.2.2.2.1, u.2.2.2.2.2.2.2.2.2.2.2.2.2.2.1, u.2.2.2.2.2.2.2.2.2.2.2.2.2.2.2.1, u.2.2.2.2.2.2.2.2.2.2.2.2.2.2.2.2.1, u.2.2.2.2.2.2.2.2.2.2.2.2.2.2.2.2.2.1, u.2.2.2.2.2.2.2.2.2.2.2.2.2.2.2.2.2.2.1, u.2.2.2.2.2.2.2.2.2.2.2.2.2.2.2.2.2.2.2.1, u.2.2.2.2.2.2.2.2.2.2.2.2.2.2.2.2.2.2.2.2.1, u.2.2.2.2.2.2.2.2.2.2.2.2.2.2.2.2.2.2.2.2.2.1, u.2.2.2.2.2.2.2.2.2.2.2.2.2.2.2.2.2.2.2.2.2.2.1, u.2.2.2.2.2.2.2.2.2.2.2.2.2.2.2.2.2.2.2.2.2.2.2.1, u.2.2.2.2.2.2.2.2.2.2.2.2.2.2.2.2.2.2.2.2.2.2.2.2.1, u.2.2.2.2.2.2.2.2.2.2.2.2.2.2.2.2.2.2.2.2.2.2.2.2.2.1, u.2.2.2.2.2.2.2.2.2.2.2.2.2.2.2.2.2.2.2.2.2.2.2.2.2.2.1, v, u.2.2.2.2.2.2.2.2.2.2.2.2.2.2.2.2.2.2.2.2.2.2.2.2.2.2.2.2)
def gMW_due (u : MW) : Int32 := u.2.2.2.2.2.2.2.2.2.2.2.2.2.2.2.2.2.2.2.2.2.2.2.2.2.2.2.2.1
def sMW_due (u : MW) (v : Int32) : MW := (u.1, u.2.1, u.2.2.1, u.2.2.2.1, u.2.2.2.2.1, u.2.2.2.2.2.1, u.2.2.2.2.2.2.1, u.2.2.2.2.2.2.2.1, u.2.2.2.2.2.2.2.2.1, u.2.2.2.2.2.2.2.2.2.1, u.2.2.2.2.2.2.2.2.2.2.1, u.2.2.2.2.2.2.2.2.2.2.2.1, u.2.2.2.2.2.2.2.2.2.2.2.2.1, u.2.2.2.2.2.2.2.2.2.2.2.2.2.1, u.2.2.2.2.2.2.2.2.2.2.2.2.2.2.1, u.2.2.2.2.2.2.2.2.2.2.2.2.2.2.2.1, u.2.2.2.2.2.2.2.2.2.2.2.2.2.2.2.2.1, u.2.2.2.2.2.2.2.2.2.2.2.2.2.2.2.2.2.1, u.2.2.2.2.2.2.2.2.2.2.2.2.2.2.2.2.2.2.1, u.2.2.2.2.2.2.2.2.2.2.2.2.2.2.2.2.2.2.2.1, u.2.2.2.2.2.2.2.2.2.2.2.2.2.2.2.2.2.2.2.2.1, u.2.2.2.2.2.2.2.2.2.2.2.2.2.2.2.2.2.2.2.2.2.1, u.2.2.2.2.2.2.2.2.2.2.2.2.2.2.2.2.2.2.2.2.2.2.1, u.2.2.2.2.2.2.2.2.2.2.2.2.2.2.2.2.2.2.2.2.2.2.2.1, u.2.2.2.2.2.2.2.2.2.2.2.2.2.2.2.2.2.2.2.2.2.2.2.2.1, u.2.2.2.2.2.2.2.2.2.2.2.2.2.2.2.2.2.2.2.2.2.2.2.2.2.1, u.2.2.2.2.2.2.2.2.2.2.2.2.2.2.2.2.2.2.2.2.2.2.2.2.2.2.1, u.2.2.2.2.2.2.2.2.2.2.2.2.2.2.2.2.2.2.2.2.2.2.2.2.2.2.2.1, v, u.2.2.2.2.2.2.2.2.2.2.2.2.2.2.2.2.2.2.2.2.2.2.2.2.2.2.2.2.2)
def gMW_fresh (u : MW) : Bool := u.2.2.2.2.2.2.2.2.2.2.2.2.2.2.2.2.2.2.2.2.2.2.2.2.2.2.2.2.2
def sMW_fresh (u : MW) (v : Bool) : MW := (u.1, u.2.1, u.2.2.1, u.2.2.2.1, u.2.2.2.2.1, u.2.2.2.2.2.1, u.2.2.2.2.2.2.1, u.2.2.2.2.2.2.2.1, u.2.2.2.2.2.2.2.2.1, u.2.2.2.2.2.2.2.2.2.1, u.2.2.2.2.2.2.2.2.2.2.1, u.2.2.2.2.2.2.2.2.2.2.2.1, u.2.2.2.2.2.2.2.2.2.2.2.2.1, u.2.2.2.2.2.2.2.2.2.2.2.2.2.1, u.2.2.2.2.2.2.2.2.2.2.2.2.2.2.1, u.2.2.2.2.2.2.2.2.2.2.2.2.2.2.2.1, u.2.2.2.2.2.2.2.2.2.2.2.2.2.2.2.2.1, u.2.2.2.2.2.2.2.2.2.2.2.2.2.2.2.2.2.1, u.2.2.2.2.2.2.2.2.2.2.2.2.2.2.2.2.2.2.1, u.2.2.2.2.2.2.2.2.2.2.2.2.2.2.2.2.2.2.2.1, u.2.2.2.2.2.2.2.2.2.2.2.2.2.2.2.2.2.2.2.2.1, u.2.2.2.2.2.2.2.2.2.2.2.2.2.2.2.2.2.2.2.2.2.1, u.2.2.2.2.2.2.2.2.2.2.2.2.2.2.2.2.2.2.2.2.2.2.1, u.2.2.2.2.2.2.2.2.2.2.2.2.2.2.2.2.2.2.2.2.2.2.2.1, u.2.2.2.2.2.2.2.2.2.2.2.2.2.2.2.2.2.2.2.2.2.2.2.2.1, u.2.2.2.2.2.2.2.2.2.2.2.2.2.2.2.2.2.2.2.2.2.2.2.2.2.1, u.2.2.2.2.2.2.2.2.2.2.2.2.2.2.2.2.2.2.2.2.2.2.2.2.2.2.1, u.2.2.2.2.2.2.2.2.2.2.2.2.2.2.2.2.2.2.2.2.2.2.2.2.2.2.2.1, u.2.2.2.2.2.2.2.2.2.2.2.2.2.2.2.2.2.2.2.2.2.2.2.2.2.2.2.2.1, v)
def gPW_KW (u : PW) : KW := (gPW_K u, gPW_m u, gPW_d u)
def sPW_KW (u : PW) (v : KW) : PW := (gPW_P u, gKW_m v, gKW_d v, gPW_C u, gKW_K v, gPW_F u)
abbrev cF_fO (cI : ClassId) (fO : Nat) (u : FS) : Nat × va_E := (fO, .inr (3, [.int (bI (gFS_s u)), .int (bI (gFS_z u)), .int (bI (gFS_h u)), .int (bI (gFS_p u)), .int (bI (gFS_c u))]))
abbrev wF (cI : ClassId) (fO : Nat) (u : FS) : va_W := [cF_fO cI fO u]
abbrev cA_aO (cI : ClassId) (aO fO : Nat) (u : FS) : Nat × va_E := (aO, .inr (0, [.ref fO]))
abbrev cA_fO (cI : ClassId) (fO : Nat) (u : FS) : Nat × va_E := (fO, .inr (3, [.int (bI (gFS_s u)), .int (bI (gFS_z u)), .int (bI (gFS_h u)), .int (bI (gFS_p u)), .int (bI (gFS_c u))]))
abbrev wA (cI : ClassId) (aO fO : Nat) (u : FS) : va_W := [cA_aO cI aO fO u, cA_fO cI fO u]
abbrev cS_mS (cI : ClassId) (mS mA : Nat) (u : (Nat → Int32)) : Nat × va_E := (mS, .inr (5, [.ref mA]))
abbrev cS_mA (cI : ClassId) (mA : Nat) (u : (Nat → Int32)) : Nat × va_E := (mA, .inl (cI, 4096, .inl u))
abbrev wS (cI : ClassId) (mS mA : Nat) (u : (Nat → Int32)) : va_W := [cS_mS cI mS mA u, cS_mA cI mA u]
abbrev cC_cO (cI : ClassId) (cO iA oA : Nat) (u : CS) : Nat × va_E := (cO, .inr (1, [.ref iA, .int (gCS_fst u), .int (gCS_cnt u), .ref oA, .int (gCS_oc u)]))
abbrev cC_iA (cI : ClassId) (iA : Nat) (u : CS) : Nat × va_E := (iA, .inl (cI, 64, .inl (gCS_inp u)))
abbrev cC_oA (cI : ClassId) (oA : Nat) (u : CS) : Nat × va_E := (oA, .inl (cI, 256, .inl (gCS_out u)))
abbrev wC (cI : ClassId) (cO iA oA : Nat) (u : CS) : va_W := [cC_cO cI cO iA oA u, cC_iA cI iA u, cC_oA cI oA u]
abbrev cK_kO (cI : ClassId) (kO mS dS : Nat) (u : KW) : Nat × va_E := (kO, .inr (2, [.ref mS, .ref dS, .int (gKS_sec (gKW_K u)), .int (gKS_adr (gKW_K u)), .int (gKS_call (gKW_K u)), .int (gKS_st (gKW_K u)), .int (gKS_start (gKW_K u)), .int (bI (gKS_toD (gKW_K u))), .int (gKS_mov (gKW_K u)), .int (gKS_left (gKW_K u)), .int (bI (gKS_just (gKW_K u)))]))
abbrev cK_mS (cI : ClassId) (mS mA : Nat) (u : KW) : Nat × va_E := (mS, .inr (5, [.ref mA]))
abbrev cK_mA (cI : ClassId) (mA : Nat) (u : KW) : Nat × va_E := (mA, .inl (cI, 4096, .inl (gKW_m u)))
abbrev cK_dS (cI : ClassId) (dS dA : Nat) (u : KW) : Nat × va_E := (dS, .inr (5, [.ref dA]))
abbrev cK_dA (cI : ClassId) (dA : Nat) (u : KW) : Nat × va_E := (dA, .inl (cI, 4096, .inl (gKW_d u)))
abbrev wK (cI : ClassId) (kO mS mA dS dA : Nat) (u : KW) : va_W := [cK_kO cI kO mS dS u, cK_mS cI mS mA u, cK_mA cI mA u, cK_dS cI dS dA u, cK_dA cI dA u]
abbrev cP_pO (cI : ClassId) (pO mS cO kO fO aO rA : Nat) (u : PW) : Nat × va_E := (pO, .inr (4, [.ref mS, .ref cO, .ref kO, .ref fO, .ref aO, .ref rA, .int (gPS_pc (gPW_P u)), .int (gPS_sp (gPW_P u)), .int (bI (gPS_hlt (gPW_P u))), .int (bI (gPS_on (gPW_P u))), .int (bI (gPS_jon (gPW_P u))), .int (gPS_want (gPW_P u)), .long (gPS_cyc (gPW_P u))]))
abbrev cP_mS (cI : ClassId) (mS mA : Nat) (u : PW) : Nat × va_E := (mS, .inr (5, [.ref mA]))
abbrev cP_mA (cI : ClassId) (mA : Nat) (u : PW) : Nat × va_E := (mA, .inl (cI, 4096, .inl (gPW_m u)))
abbrev cP_dS (cI : ClassId) (dS dA : Nat) (u : PW) : Nat × va_E := (dS, .inr (5, [.ref dA]))
abbrev cP_dA (cI : ClassId) (dA : Nat) (u : PW) : Nat × va_E := (dA, .inl (cI, 4096, .inl (gPW_d u)))
abbrev cP_cO (cI : ClassId) (cO iA oA : Nat) (u : PW) : Nat × va_E := (cO, .inr (1, [.ref iA, .int (gCS_fst (gPW_C u)), .int (gCS_cnt (gPW_C u)), .ref oA, .int (gCS_oc (gPW_C u))]))
abbrev cP_iA (cI : ClassId) (iA : Nat) (u : PW) : Nat × va_E := (iA, .inl (cI, 64, .inl (gCS_inp (gPW_C u))))
abbrev cP_oA (cI : ClassId) (oA : Nat) (u : PW) : Nat × va_E := (oA, .inl (cI, 256, .inl (gCS_out (gPW_C u))))
abbrev cP_kO (cI : ClassId) (kO mS dS : Nat) (u : PW) : Nat × va_E := (kO, .inr (2, [.ref mS, .ref dS, .int (gKS_sec (gPW_K u)), .int (gKS_adr (gPW_K u)), .int (gKS_call (gPW_K u)), .int (gKS_st (gPW_K u)), .int (gKS_start (gPW_K u)), .int (bI (gKS_toD (gPW_K u))), .int (gKS_mov (gPW_K u)), .int (gKS_left (gPW_K u)), .int (bI (gKS_just (gPW_K u)))]))
abbrev cP_fO (cI : ClassId) (fO : Nat) (u : PW) : Nat × va_E := (fO, .inr (3, [.int (bI (gFS_s (gPW_F u))), .int (bI (gFS_z (gPW_F u))), .int (bI (gFS_h (gPW_F u))), .int (bI (gFS_p (gPW_F u))), .int (bI (gFS_c (gPW_F u)))]))
abbrev cP_aO (cI : ClassId) (aO fO : Nat) (u : PW) : Nat × va_E := (aO, .inr (0, [.ref fO]))
abbrev cP_rA (cI : ClassId) (rA : Nat) (u : PW) : Nat × va_E := (rA, .inl (cI, 8, .inl (gPS_r (gPW_P u))))
abbrev wP (cI : ClassId) (pO mS mA dS dA cO iA oA kO fO aO rA : Nat) (u : PW) : va_W := [cP_pO cI pO mS cO kO fO aO rA u, cP_mS cI mS mA u, cP_mA cI mA u, cP_dS cI dS dA u, cP_dA cI dA u, cP_cO cI cO iA oA u, cP_iA cI iA u, cP_oA cI oA u, cP_kO cI kO mS dS u, cP_fO cI fO u, cP_aO cI aO fO u, cP_rA cI rA u]
abbrev cX_xO (cI : ClassId) (xO mS dS cO kO pO : Nat) (u : PW) : Nat × va_E := (xO, .inr (6, [.ref mS, .ref dS, .ref cO, .ref kO, .ref pO]))
abbrev cX_pO (cI : ClassId) (pO mS cO kO fO aO rA : Nat) (u : PW) : Nat × va_E := (pO, .inr (4, [.ref mS, .ref cO, .ref kO, .ref fO, .ref aO, .ref rA, .int (gPS_pc (gPW_P u)), .int (gPS_sp (gPW_P u)), .int (bI (gPS_hlt (gPW_P u))), .int (bI (gPS_on (gPW_P u))), .int (bI (gPS_jon (gPW_P u))), .int (gPS_want (gPW_P u)), .long (gPS_cyc (gPW_P u))]))
abbrev cX_mS (cI : ClassId) (mS mA : Nat) (u : PW) : Nat × va_E := (mS, .inr (5, [.ref mA]))
abbrev cX_mA (cI : ClassId) (mA : Nat) (u : PW) : Nat × va_E := (mA, .inl (cI, 4096, .inl (gPW_m u)))
abbrev cX_dS (cI : ClassId) (dS dA : Nat) (u : PW) : Nat × va_E := (dS, .inr (5, [.ref dA]))
abbrev cX_dA (cI : ClassId) (dA : Nat) (u : PW) : Nat × va_E := (dA, .inl (cI, 4096, .inl (gPW_d u)))
abbrev cX_cO (cI : ClassId) (cO iA oA : Nat) (u : PW) : Nat × va_E := (cO, .inr (1, [.ref iA, .int (gCS_fst (gPW_C u)), .int (gCS_cnt (gPW_C u)), .ref oA, .int (gCS_oc (gPW_C u))]))
abbrev cX_iA (cI : ClassId) (iA : Nat) (u : PW) : Nat × va_E := (iA, .inl (cI, 64, .inl (gCS_inp (gPW_C u))))
abbrev cX_oA (cI : ClassId) (oA : Nat) (u : PW) : Nat × va_E := (oA, .inl (cI, 256, .inl (gCS_out (gPW_C u))))
abbrev cX_kO (cI : ClassId) (kO mS dS : Nat) (u : PW) : Nat × va_E := (kO, .inr (2, [.ref mS, .ref dS, .int (gKS_sec (gPW_K u)), .int (gKS_adr (gPW_K u)), .int (gKS_call (gPW_K u)), .int (gKS_st (gPW_K u)), .int (gKS_start (gPW_K u)), .int (bI (gKS_toD (gPW_K u))), .int (gKS_mov (gPW_K u)), .int (gKS_left (gPW_K u)), .int (bI (gKS_just (gPW_K u)))]))
abbrev cX_fO (cI : ClassId) (fO : Nat) (u : PW) : Nat × va_E := (fO, .inr (3, [.int (bI (gFS_s (gPW_F u))), .int (bI (gFS_z (gPW_F u))), .int (bI (gFS_h (gPW_F u))), .int (bI (gFS_p (gPW_F u))), .int (bI (gFS_c (gPW_F u)))]))
abbrev cX_aO (cI : ClassId) (aO fO : Nat) (u : PW) : Nat × va_E := (aO, .inr (0, [.ref fO]))
abbrev cX_rA (cI : ClassId) (rA : Nat) (u : PW) : Nat × va_E := (rA, .inl (cI, 8, .inl (gPS_r (gPW_P u))))
abbrev wX (cI : ClassId) (xO pO mS mA dS dA cO iA oA kO fO aO rA : Nat) (u : PW) : va_W := [cX_xO cI xO mS dS cO kO pO u, cX_pO cI pO mS cO kO fO aO rA u, cX_mS cI mS mA u, cX_mA cI mA u, cX_dS cI dS dA u, cX_dA cI dA u, cX_cO cI cO iA oA u, cX_iA cI iA u, cX_oA cI oA u, cX_kO cI kO mS dS u, cX_fO cI fO u, cX_aO cI aO fO u, cX_rA cI rA u]
abbrev cM_mO (cI : ClassId) (mO memA dskA rgA inA outA : Nat) (u : MW) : Nat × va_E := (mO, .inr (7, [.int (gMW_thr u), .ref memA, .ref dskA, .ref rgA, .int (bI (gMW_s u)), .int (bI (gMW_z u)), .int (bI (gMW_h u)), .int (bI (gMW_p u)), .int (bI (gMW_c u)), .int (gMW_pc u), .int (gMW_sp u), .int (bI (gMW_hlt u)), .int (bI (gMW_on u)), .int (bI (gMW_jon u)), .int (gMW_want u), .long (gMW_cyc u), .int (gMW_spent u), .ref inA, .int (gMW_ins u), .ref outA, .int (gMW_outs u), .int (gMW_sec u), .int (gMW_adr u), .int (gMW_call u), .int (gMW_st u), .int (gMW_cmd u), .int (gMW_frm u), .int (gMW_mov u), .int (gMW_due u), .int (bI (gMW_fresh u))]))
abbrev cM_memA (cI : ClassId) (memA : Nat) (u : MW) : Nat × va_E := (memA, .inl (cI, 4096, .inl (gMW_m u)))
abbrev cM_dskA (cI : ClassId) (dskA : Nat) (u : MW) : Nat × va_E := (dskA, .inl (cI, 4096, .inl (gMW_d u)))
abbrev cM_rgA (cI : ClassId) (rgA : Nat) (u : MW) : Nat × va_E := (rgA, .inl (cI, 8, .inl (gMW_r u)))
abbrev cM_inA (cI : ClassId) (inA : Nat) (u : MW) : Nat × va_E := (inA, .inl (cI, 64, .inl (gMW_inp u)))
abbrev cM_outA (cI : ClassId) (outA : Nat) (u : MW) : Nat × va_E := (outA, .inl (cI, 256, .inl (gMW_out u)))
abbrev wM (cI : ClassId) (mO memA dskA rgA inA outA : Nat) (u : MW) : va_W := [cM_mO cI mO memA dskA rgA inA outA u, cM_memA cI memA u, cM_dskA cI dskA u, cM_rgA cI rgA u, cM_inA cI inA u, cM_outA cI outA u]
