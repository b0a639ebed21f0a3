/-! what an instruction keeps: bytes are bytes, words are words; console, controller, wanted stay -/
def Ok (u v : PW) : Prop := InvB v ∧ gPW_C v = gPW_C u ∧ gPW_K v = gPW_K u ∧ gPW_P_want v = gPW_P_want u ∧ gPW_P_hlt v = gPW_P_hlt u ∧ gPW_P_jon v = gPW_P_jon u
theorem Ok.trans {u v x : PW} (h : Ok u v) (k : Ok v x) : Ok u x := ⟨k.1, k.2.1.trans h.2.1, k.2.2.1.trans h.2.2.1, k.2.2.2.1.trans h.2.2.2.1, k.2.2.2.2.1.trans h.2.2.2.2.1, k.2.2.2.2.2.trans h.2.2.2.2.2⟩
theorem Ok.refl {u : PW} (h : InvB u) : Ok u u := ⟨h, rfl, rfl, rfl, rfl, rfl⟩
theorem ok_pc {u : PW} {x : Int32} (h : InvB u) (hx : isW x) : Ok u (sPW_P_pc u x) := ⟨⟨h.1, h.2.1, h.2.2.1, h.2.2.2.1, hx, h.2.2.2.2.2⟩, rfl, rfl, rfl, rfl, rfl⟩
theorem ok_sp {u : PW} {x : Int32} (h : InvB u) (hx : isW x) : Ok u (sPW_P_sp u x) := ⟨⟨h.1, h.2.1, h.2.2.1, h.2.2.2.1, h.2.2.2.2.1, hx, h.2.2.2.2.2.2⟩, rfl, rfl, rfl, rfl, rfl⟩
theorem ok_F {u : PW} {f : FS} (h : InvB u) : Ok u (sPW_F u f) := ⟨h, rfl, rfl, rfl, rfl, rfl⟩
theorem upd_B {f : Nat → Int32} (h : ∀ i, isB (f i)) (k : Nat) {x : Int32} (hx : isB x) : ∀ i, isB (upd f k x i) := by
  intro i
  unfold upd
  by_cases c : i = k
  · rw [if_pos c]; exact hx
  · rw [if_neg c]; exact h i
theorem ok_r {u : PW} {x : Int32} (h : InvB u) (k : Nat) (hx : isB x) : Ok u (sPW_P_r u (upd (gPW_P_r u) k x)) := ⟨⟨h.1, h.2.1, upd_B h.2.2.1 k hx, h.2.2.2⟩, rfl, rfl, rfl, rfl, rfl⟩
theorem ok_m {u : PW} {f : Nat → Int32} (h : InvB u) (hf : ∀ i, isB (f i)) : Ok u (sPW_m u f) := ⟨⟨hf, h.2⟩, rfl, rfl, rfl, rfl, rfl⟩
theorem sb_B {f : Nat → Int32} (h : ∀ i, isB (f i)) (a v : Int32) : ∀ i, isB (f_X5_setByte f a v i) := upd_B h _ (isB_and v)
theorem sw_B {f : Nat → Int32} (h : ∀ i, isB (f i)) (a v : Int32) : ∀ i, isB (f_X5_setWord f a v i) := upd_B (upd_B h _ (isB_and v)) _ (isB_and _)
theorem isW_wd {a b : Int32} (ha : isB a) (hb : isB b) : isW (a ||| b <<< ((8 : Int32) &&& 31)) ∧ isW (b <<< ((8 : Int32) &&& 31) ||| a) ∧ isB ((a ||| b <<< ((8 : Int32) &&& 31)) >>> ((8 : Int32) &&& 31)) := by
  have h1 : ∀ i, 8 ≤ i → bt a i = false := fun i hi => by
    have q := congrArg (fun z => bt z i) ha
    simp only [b_and, b_255] at q
    rw [← q, decide_eq_false (by omega), Bool.and_false]
  have h2 : ∀ i, 8 ≤ i → bt b i = false := fun i hi => by
    have q := congrArg (fun z => bt z i) hb
    simp only [b_and, b_255] at q
    rw [← q, decide_eq_false (by omega), Bool.and_false]
  refine ⟨?_, ?_, ?_⟩
  · unfold isW
    refine b_ext (fun i hi => ?_)
    rw [b_and, b_or, b_shl8 b hi, b_65535]
    by_cases c : i < 16
    · rw [decide_eq_true c, Bool.and_true]
    · rw [h1 i (by omega), h2 (i - 8) (by omega), Bool.and_false]; simp
  · unfold isW
    refine b_ext (fun i hi => ?_)
    rw [b_and, b_or, b_shl8 b hi, b_65535]
    by_cases c : i < 16
    · rw [decide_eq_true c, Bool.and_true]
    · rw [h1 i (by omega), h2 (i - 8) (by omega), Bool.and_false]; simp
  · unfold isB
    refine b_ext (fun i hi => ?_)
    rw [b_and, b_sshr8 _ hi, b_255]
    by_cases c : i < 8
    · rw [decide_eq_true c, Bool.and_true]
    · rw [decide_eq_false c, Bool.and_false]
      by_cases d : 8 + i < 32
      · rw [if_pos d, b_or, b_shl8 b d, h1 (8 + i) (by omega), h2 (8 + i - 8) (by omega)]; simp
      · rw [if_neg d, b_or, b_shl8 b (by omega), h1 31 (by omega), h2 (31 - 8) (by omega)]; simp
theorem wordAt_W {f : Nat → Int32} (h : ∀ i, isB (f i)) (a : Int32) : isW (f_X5_wordAt f a) ∧ isB ((f_X5_wordAt f a) >>> ((8 : Int32) &&& 31)) := ⟨(isW_wd (h _) (h _)).1, (isW_wd (h _) (h _)).2.2⟩
theorem pair_W {u : PW} (h : InvB u) (p : Int32) : isW (f_X4_pair u p) := by
  unfold f_X4_pair
  by_cases c : p = (3 : Int32)
  · rw [if_pos c]; exact h.2.2.2.2.2.1
  · rw [if_neg c]; exact (isW_wd (h.2.2.1 _) (h.2.2.1 _)).2.1
theorem ok_next {u : PW} (h : InvB u) : Ok u (f_X4_nextByte u).2 := ok_pc h (isW_and _)
theorem ok_nextW {u : PW} (h : InvB u) : Ok u (f_X4_nextWord u).2 := ok_pc h (isW_and _)
theorem nextW_W {u : PW} (h : InvB u) : isW (f_X4_nextWord u).1 := (wordAt_W h.1 _).1
theorem ok_push {u : PW} (h : InvB u) (v : Int32) : Ok u (f_X4_push u v) := (ok_sp h (isW_and (gPW_P_sp u - 2))).trans (ok_m (ok_sp h (isW_and _)).1 (sw_B (ok_sp (u := u) h (isW_and _)).1.1 _ _))
theorem ok_pop {u : PW} (h : InvB u) : Ok u (f_X4_pop u).2 := ok_sp h (isW_and _)
theorem pop_W {u : PW} (h : InvB u) : isW (f_X4_pop u).1 ∧ isB ((f_X4_pop u).1 >>> ((8 : Int32) &&& 31)) := wordAt_W h.1 _
theorem ok_setPair {u : PW} (h : InvB u) (p v : Int32) : Ok u (f_X4_setPair u p v) := by
  unfold f_X4_setPair
  by_cases c : p = (3 : Int32)
  · rw [if_pos c]; exact ok_sp h (isW_and _)
  · rw [if_neg c]
    exact (ok_r h _ (isB_and _)).trans (ok_r (ok_r h _ (isB_and _)).1 _ (isB_and _))
theorem ok_setValue {u : PW} (h : InvB u) (k : Int32) {v : Int32} (hv : isB v) : Ok u (f_X4_setValue u k v) := by
  unfold f_X4_setValue
  by_cases c : k = (6 : Int32)
  · rw [if_pos c]; exact ok_m h (sb_B h.1 _ _)
  · rw [if_neg c]; exact ok_r h _ hv
theorem ok_acc {u : PW} (h : InvB u) {c : Int32 × FS} (hc : isB c.1) : Ok u (accF u c) := (ok_F h).trans (ok_r (ok_F h).1 _ hc)
theorem comb_B {f : FS} {y a b : Int32} (ha : isB a) (hb : isB b) : isB (f_X0_combine f y a b).1 := by
  unfold f_X0_combine
  repeat' split
  all_goals first | exact isB_and _ | exact (isB_band ha hb).1 | exact (isB_band ha hb).2.2 | exact (isB_band ha hb).2.1 | exact ha
theorem rotB : ∀ n : Nat, n < 256 → (((nI n <<< ((1 : Int32) &&& 31)) &&& 255 ||| nI n >>> ((7 : Int32) &&& 31)) &&& 255 = ((nI n <<< ((1 : Int32) &&& 31)) &&& 255 ||| nI n >>> ((7 : Int32) &&& 31))) ∧ ((nI n >>> ((1 : Int32) &&& 31) ||| (nI n &&& 1) <<< ((7 : Int32) &&& 31)) &&& 255 = (nI n >>> ((1 : Int32) &&& 31) ||| (nI n &&& 1) <<< ((7 : Int32) &&& 31))) ∧ (∀ c : Bool, ((nI n <<< ((1 : Int32) &&& 31)) &&& 255 ||| bI c) &&& 255 = ((nI n <<< ((1 : Int32) &&& 31)) &&& 255 ||| bI c)) ∧ (∀ c : Bool, (nI n >>> ((1 : Int32) &&& 31) ||| (bI c) <<< ((7 : Int32) &&& 31)) &&& 255 = (nI n >>> ((1 : Int32) &&& 31) ||| (bI c) <<< ((7 : Int32) &&& 31))) ∧ ((nI n ^^^ 255) &&& 255 = nI n ^^^ 255) := by decide +kernel
theorem adj_B {f : FS} {y a : Int32} (ha : isB a) : isB (f_X0_adjust f y a).1 := by
  obtain ⟨n, hn, rfl⟩ := isB_of ha
  obtain ⟨r1, r2, r3, r4, r5⟩ := rotB n hn
  unfold f_X0_adjust
  repeat' split
  all_goals first | exact r1 | exact r2 | exact r3 _ | exact r4 _ | exact isB_and _ | exact r5 | exact ha
