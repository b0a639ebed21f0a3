/-! what each quarter keeps, and its cost -/
def cst (c : Int32) : Prop := ∃ k : Nat, k ≤ 18 ∧ c = nI k
theorem ok_on {u : PW} {b : Bool} (h : InvB u) : Ok u (sPW_P_on u b) := ⟨h, rfl, rfl, rfl, rfl, rfl⟩
theorem c_4 : cst 4 := ⟨4, by decide, rfl⟩
theorem c_5 : cst 5 := ⟨5, by decide, rfl⟩
theorem c_7 : cst 7 := ⟨7, by decide, rfl⟩
theorem c_10 : cst 10 := ⟨10, by decide, rfl⟩
theorem c_11 : cst 11 := ⟨11, by decide, rfl⟩
theorem c_13 : cst 13 := ⟨13, by decide, rfl⟩
theorem c_16 : cst 16 := ⟨16, by decide, rfl⟩
theorem c_17 : cst 17 := ⟨17, by decide, rfl⟩
theorem c_18 : cst 18 := ⟨18, by decide, rfl⟩
theorem c_if {p : Prop} [Decidable p] {a b : Int32} (ha : cst a) (hb : cst b) : cst (if p then a else b) := by
  by_cases h : p
  · rw [if_pos h]; exact ha
  · rw [if_neg h]; exact hb
theorem value_B {u : PW} (h : InvB u) (k : Int32) : isB (f_X4_value u k) := by
  unfold f_X4_value
  by_cases c : k = (6 : Int32)
  · rw [if_pos c]; exact h.1 _
  · rw [if_neg c]; exact h.2.2.1 _
theorem ok_soa {u : PW} (h : InvB u) (y : Int32) : Ok u (f_X4_setOrAddPair u y).2 ∧ cst (f_X4_setOrAddPair u y).1 := by
  unfold f_X4_setOrAddPair
  by_cases c : (y &&& (1 : Int32)) = (0 : Int32)
  · rw [if_pos c]; exact ⟨(ok_nextW h).trans (ok_setPair (ok_nextW h).1 _ _), c_10⟩
  · rw [if_neg c]; exact ⟨(ok_F h).trans (ok_setPair (ok_F h).1 _ _), c_10⟩
theorem ok_mba {u : PW} (h : InvB u) (y : Int32) : Ok u (f_X4_moveByAddress u y).2 ∧ cst (f_X4_moveByAddress u y).1 := by
  unfold f_X4_moveByAddress
  by_cases c0 : y = 0
  · rw [if_pos c0]; exact ⟨ok_m h (sb_B h.1 _ _), c_7⟩
  rw [if_neg c0]
  by_cases c1 : y = 1
  · rw [if_pos c1]; exact ⟨ok_r h _ (h.1 _), c_7⟩
  rw [if_neg c1]
  by_cases c2 : y = 2
  · rw [if_pos c2]; exact ⟨ok_m h (sb_B h.1 _ _), c_7⟩
  rw [if_neg c2]
  by_cases c3 : y = 3
  · rw [if_pos c3]; exact ⟨ok_r h _ (h.1 _), c_7⟩
  rw [if_neg c3]
  by_cases c4 : y = 4
  · rw [if_pos c4]; exact ⟨(ok_nextW h).trans (ok_m (ok_nextW h).1 (sw_B (ok_nextW h).1.1 _ _)), c_16⟩
  rw [if_neg c4]
  by_cases c5 : y = 5
  · rw [if_pos c5]; exact ⟨(ok_nextW h).trans (ok_setPair (ok_nextW h).1 _ _), c_16⟩
  rw [if_neg c5]
  by_cases c6 : y = 6
  · rw [if_pos c6]; exact ⟨(ok_nextW h).trans (ok_m (ok_nextW h).1 (sb_B (ok_nextW h).1.1 _ _)), c_13⟩
  rw [if_neg c6]
  exact ⟨(ok_nextW h).trans (ok_r (ok_nextW h).1 _ ((ok_nextW h).1.1 _)), c_13⟩
theorem ok_first {u : PW} (h : InvB u) (y z : Int32) : Ok u (f_X4_firstQuarter u y z).2 ∧ cst (f_X4_firstQuarter u y z).1 := by
  unfold f_X4_firstQuarter
  by_cases c0 : z = 0
  · rw [if_pos c0]; exact ⟨Ok.refl h, c_4⟩
  rw [if_neg c0]
  by_cases c1 : z = 1
  · rw [if_pos c1]; exact ok_soa h y
  rw [if_neg c1]
  by_cases c2 : z = 2
  · rw [if_pos c2]; exact ok_mba h y
  rw [if_neg c2]
  by_cases c3 : z = 3
  · rw [if_pos c3]; exact ⟨ok_setPair h _ _, c_5⟩
  rw [if_neg c3]
  by_cases c4 : z = 4
  · rw [if_pos c4]; exact ⟨(ok_F h).trans (ok_setValue (ok_F h).1 _ (isB_and _)), c_if c_10 c_5⟩
  rw [if_neg c4]
  by_cases c5 : z = 5
  · rw [if_pos c5]; exact ⟨(ok_F h).trans (ok_setValue (ok_F h).1 _ (isB_and _)), c_if c_10 c_5⟩
  rw [if_neg c5]
  by_cases c6 : z = 6
  · rw [if_pos c6]; exact ⟨(ok_next h).trans (ok_setValue (ok_next h).1 _ (h.1 _)), c_if c_10 c_7⟩
  rw [if_neg c6]
  exact ⟨ok_acc (c := f_X0_adjust (gPW_F u) y ((gPW_P_r u) (7 : Int32).toNatClampNeg)) h (adj_B (h.2.2.1 _)), c_4⟩
theorem ok_ret {u : PW} (h : InvB u) : Ok u (sPW_P_pc (f_X4_pop u).2 (f_X4_pop u).1) := (ok_pop h).trans (ok_pc (ok_pop h).1 (pop_W h).1)
theorem ok_retIf {u : PW} (h : InvB u) (y : Int32) : Ok u (f_X4_returnIf u y).2 ∧ cst (f_X4_returnIf u y).1 := by
  unfold f_X4_returnIf
  by_cases c : (bI (f_X3_holds (gPW_F u) y)) = (0 : Int32)
  · rw [if_pos c]; exact ⟨Ok.refl h, c_5⟩
  · rw [if_neg c]; exact ⟨ok_ret h, c_11⟩
theorem ok_popPair {u : PW} (h : InvB u) (k : Int32) : Ok u (f_X4_setPair (f_X4_pop u).2 k (f_X4_pop u).1) := (ok_pop h).trans (ok_setPair (ok_pop h).1 _ _)
theorem ok_popAcc {u : PW} (h : InvB u) : Ok u (f_X4_popAccumulator u).2 := (ok_pop h).trans ((ok_r (ok_pop h).1 _ (pop_W h).2).trans (ok_F (ok_r (ok_pop h).1 _ (pop_W h).2).1))
theorem ok_por {u : PW} (h : InvB u) (y : Int32) : Ok u (f_X4_popOrReturn u y).2 ∧ cst (f_X4_popOrReturn u y).1 := by
  unfold f_X4_popOrReturn
  by_cases c1 : y = 1
  · rw [if_pos c1]; exact ⟨ok_ret h, c_10⟩
  rw [if_neg c1]
  by_cases c2 : y = 2
  · rw [if_pos c2]; exact ⟨ok_popPair h _, c_10⟩
  rw [if_neg c2]
  by_cases c3 : y = 3
  · rw [if_pos c3]; exact ⟨ok_ret h, c_10⟩
  rw [if_neg c3]
  by_cases c4 : y = 4
  · rw [if_pos c4]; exact ⟨ok_popPair h _, c_10⟩
  rw [if_neg c4]
  by_cases c5 : y = 5
  · rw [if_pos c5]; exact ⟨ok_pc h (pair_W h _), c_5⟩
  rw [if_neg c5]
  by_cases c6 : y = 6
  · rw [if_pos c6]; exact ⟨ok_popAcc h, c_10⟩
  rw [if_neg c6]
  by_cases c7 : y = 7
  · rw [if_pos c7]; exact ⟨ok_sp h (pair_W h _), c_5⟩
  rw [if_neg c7]
  exact ⟨ok_popPair h _, c_10⟩
theorem ok_jump {u : PW} (h : InvB u) (b : Bool) : Ok u (f_X4_jumpIf u b).2 ∧ cst (f_X4_jumpIf u b).1 := by
  unfold f_X4_jumpIf
  by_cases c : (bI b) = (0 : Int32)
  · rw [if_pos c]; exact ⟨ok_nextW h, c_10⟩
  · rw [if_neg c]; exact ⟨(ok_nextW h).trans (ok_pc (ok_nextW h).1 (nextW_W h)), c_10⟩
theorem ok_call {u : PW} (h : InvB u) (b : Bool) : Ok u (f_X4_callIf u b).2 ∧ cst (f_X4_callIf u b).1 := by
  unfold f_X4_callIf
  by_cases c : (bI b) = (0 : Int32)
  · rw [if_pos c]; exact ⟨ok_nextW h, c_11⟩
  · rw [if_neg c]; exact ⟨(ok_nextW h).trans ((ok_push (ok_nextW h).1 _).trans (ok_pc (ok_push (ok_nextW h).1 _).1 (nextW_W h))), c_17⟩
theorem isW_8 {y : Int32} (h : vp_in y 8) : isW ((8 : Int32) * y) := by
  unfold isW
  rcases in_cases8 h with rfl | rfl | rfl | rfl | rfl | rfl | rfl | rfl <;> decide
theorem ok_rst {u : PW} (h : InvB u) {y : Int32} (hy : vp_in y 8) (x : Int32) : Ok u (sPW_P_pc (f_X4_push u x) ((8 : Int32) * y)) := (ok_push h _).trans (ok_pc (ok_push h _).1 (isW_8 hy))
theorem ok_xthl {u : PW} (h : InvB u) : Ok u (f_X4_swapWithStack u).2 := (ok_m h (sw_B h.1 _ _)).trans (ok_setPair (ok_m h (sw_B h.1 _ _)).1 _ _)
theorem ok_xchg {u : PW} (h : InvB u) : Ok u (f_X4_swapPairs u).2 := (ok_setPair h _ _).trans (ok_setPair (ok_setPair h _ _).1 _ _)
theorem ok_last {u : PW} (h : InvB u) {y z : Int32} (hy : vp_in y 8) (hp : ¬ (z = 3 ∧ (y = 2 ∨ y = 3 ∨ y = 7))) : Ok u (f_X4_lastQuarter u y z).2 ∧ cst (f_X4_lastQuarter u y z).1 := by
  by_cases c3 : z = 3
  · subst c3
    rcases in_cases8 hy with rfl | rfl | rfl | rfl | rfl | rfl | rfl | rfl
    · rw [L3a (by decide)]; exact ok_jump h true
    · rw [L3a (by decide)]; exact ok_jump h true
    · exact absurd ⟨rfl, Or.inl rfl⟩ hp
    · exact absurd ⟨rfl, Or.inr (Or.inl rfl)⟩ hp
    · rw [L3b (by decide), X4x]; exact ⟨ok_xthl h, c_18⟩
    · rw [L3b (by decide), X5x]; exact ⟨ok_xchg h, c_4⟩
    · rw [L3b (by decide), X6x]; exact ⟨ok_on h, c_4⟩
    · exact absurd ⟨rfl, Or.inr (Or.inr rfl)⟩ hp
  unfold f_X4_lastQuarter
  by_cases c0 : z = 0
  · rw [if_pos c0]; exact ok_retIf h y
  rw [if_neg c0]
  by_cases c1 : z = 1
  · rw [if_pos c1]; exact ok_por h y
  rw [if_neg c1]
  by_cases c2 : z = 2
  · rw [if_pos c2]; exact ok_jump h _
  rw [if_neg c2, if_neg c3]
  by_cases c4 : z = 4
  · rw [if_pos c4]; exact ok_call h _
  rw [if_neg c4]
  by_cases c5 : z = 5
  · rw [if_pos c5]
    by_cases c : (y &&& (1 : Int32)) = (0 : Int32)
    · rw [if_pos c]; exact ⟨ok_push h _, c_11⟩
    · rw [if_neg c]; exact ok_call h true
  rw [if_neg c5]
  by_cases c6 : z = 6
  · rw [if_pos c6]; exact ⟨(ok_next h).trans (ok_acc (c := f_X0_combine (gPW_F (f_X4_nextByte u).2) y ((gPW_P_r u) (7 : Int32).toNatClampNeg) (f_X4_nextByte u).1) (ok_next h).1 (comb_B (h.2.2.1 _) (h.1 _))), c_7⟩
  rw [if_neg c6]
  exact ⟨ok_rst h hy _, c_11⟩
