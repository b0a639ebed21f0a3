/-! what the class's state and the reference's have to do with each other -/
def isB (x : Int32) : Prop := x &&& 255 = x
def isW (x : Int32) : Prop := x &&& 65535 = x
/-- the class's state, seen as the reference's: what the class keeps otherwise stands beside -/
def toM (u : PW) (thr spent : Int32) (inp : Nat → Int32) (ins cmd due : Int32) : MW :=
  (thr, gPW_m u, gPW_d u, gPW_P_r u, gPW_F_s u, gPW_F_z u, gPW_F_h u, gPW_F_p u, gPW_F_c u, gPW_P_pc u, gPW_P_sp u, gPW_P_hlt u, gPW_P_on u, gPW_P_jon u, gPW_P_want u, gPW_P_cyc u, spent, inp, ins, gPW_C_out u, gPW_C_oc u, gPW_K_sec u, gPW_K_adr u, gPW_K_call u, gPW_K_st u, cmd, gPW_K_start u, gPW_K_mov u, due, gPW_K_just u)
/-- bytes and words are bytes and words -/
def InvB (u : PW) : Prop := (∀ i, isB (gPW_m u i)) ∧ (∀ i, isB (gPW_d u i)) ∧ (∀ i, isB (gPW_P_r u i)) ∧ (∀ i, isB (gPW_C_inp u i)) ∧ isW (gPW_P_pc u) ∧ isW (gPW_P_sp u) ∧ isB (gPW_K_sec u) ∧ vp_in (gPW_K_st u) 8
def InvC (u : PW) (inp : Nat → Int32) (ins : Int32) : Prop := ∃ i j : Nat, i < 64 ∧ j ≤ 64 ∧ gPW_C_fst u = nI i ∧ gPW_C_cnt u = nI j ∧ ins = nI j ∧ ∀ k, k < j → inp k = gPW_C_inp u ((i + k) % 64)
def InvK (u : PW) (cmd due : Int32) : Prop := (gPW_K_st u &&& 1 = 1) → (∃ i j : Nat, i < 64 ∧ j < 64 ∧ gPW_K_start u = nI (64 * i) ∧ gPW_K_mov u = nI j) ∧ (cmd = 1 ∧ gPW_K_toD u = false ∨ cmd = 2 ∧ gPW_K_toD u = true) ∧ gPW_K_left u = due ∧ ∃ d : Nat, d < 12 ∧ due = nI d
def InvP (u : PW) : Prop := (gPW_P_hlt u = true → gPW_P_jon u = false) ∧ (gPW_P_want u = -1 ∨ vp_in (gPW_P_want u) 8)
def Rel (n : Nat) (u : PW) (v : MW) : Prop := ∃ (thr spent : Int32) (inp : Nat → Int32) (ins cmd due : Int32), v = toM u thr spent inp ins cmd due ∧ InvB u ∧ InvC u inp ins ∧ InvK u cmd due ∧ InvP u ∧ gPW_K_just u = false ∧ ∃ q : Nat, q ≤ 3000 * n ∧ gPW_C_oc u = nI q
