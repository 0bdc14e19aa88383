/-! the lamps, at their cells from b on, as the state M has them (M 0 1 lamps; M 4 level, M 5 ship + 1, M 6 end, M 7 bright hours, M 8 bright) -/
def o_rl (g : Nat → Nat → Int) (b : Nat) (M : Nat → Nat → Int) : Prop := g b 0 = M 0 1 ∧ ∀ i : Nat, (i : Int) < M 0 1 → g (b + 1) i = M 4 i ∧ g (b + 2) i = M 5 i - 1 ∧ g (b + 3) i = M 6 i ∧ g (b + 4) i = M 7 i ∧ g (b + 5) i = M 8 i
/-- what the numbers of the lamps keep to -/
def o_wl (M : Nat → Nat → Int) : Prop := 0 ≤ M 0 1 ∧ M 0 1 ≤ 8 ∧ 0 ≤ M 0 3 ∧ M 0 3 ≤ 2000000 ∧ ∀ i : Nat, (i : Int) < M 0 1 → (1 ≤ M 4 i ∧ M 4 i ≤ 3) ∧ (0 ≤ M 5 i ∧ M 5 i ≤ 6) ∧ (0 ≤ M 6 i ∧ M 6 i ≤ M 0 3 + 100) ∧ M 5 i ≤ M 0 0 ∧ (M 8 i = 0 ∨ M 8 i = 1)
theorem o_rb0 : narrow .boolean (.int (o_I 0)) = .int (o_I 0) := by decide +kernel
theorem o_rb1 : narrow .boolean (.int (o_I 1)) = .int (o_I 1) := by decide +kernel
/-- sums -/
def o_sm (f : Nat → Int) : Nat → Int
  | 0 => 0
  | n + 1 => o_sm f n + f n
theorem o_sm_le {f : Nat → Int} {n : Nat} {m : Int} (h : ∀ i, i < n → 0 ≤ f i ∧ f i ≤ m) : 0 ≤ o_sm f n ∧ o_sm f n ≤ n * m := by
  induction n with
  | zero => simp [o_sm]
  | succ n ih =>
    have h1 := ih (fun i hi => h i (Nat.lt_succ_of_lt hi))
    have h2 := h n (Nat.lt_succ_self n)
    simp only [o_sm]
    have h3 : ((n + 1 : Nat) : Int) * m = n * m + m := by rw [Int.natCast_add, Int.add_mul]; simp
    omega
theorem o_rl6 {g : Nat → Nat → Int} {M : Nat → Nat → Int} (h : o_rl g 6 M) : ∀ i : Nat, (i : Int) < M 0 1 → g 7 i = M 4 i ∧ g 8 i = M 5 i - 1 ∧ g 9 i = M 6 i ∧ g 10 i = M 7 i ∧ g 11 i = M 8 i := h.2
/-- a lamp is leased; is leased to a ship -/
def o_ot (M : Nat → Nat → Int) (i : Nat) : Prop := 0 < M 5 i
theorem o_N1 {M : Nat → Nat → Int} (h : o_wl M) : ∃ N : Nat, (N : Int) = M 0 1 ∧ N ≤ 8 := ⟨(M 0 1).toNat, by have := h.1; omega, by have := h.1; have := h.2.1; omega⟩
/-- a loop that counts up -/
theorem o_lp (P : Nat → Prop) (N : Nat) (hs : ∀ i, i ≤ N → (i < N → P (i + 1)) → P i) : ∀ i, i ≤ N → P i := by
  have key : ∀ k i, N - i = k → i ≤ N → P i := by
    intro k
    induction k with
    | zero => intro i h1 h2; exact hs i h2 (fun h => by omega)
    | succ k ih => intro i h1 h2; exact hs i h2 (fun h => ih (i + 1) (by omega) (by omega))
  exact fun i hi => key _ i rfl hi
set_option maxRecDepth 100000 in
set_option maxHeartbeats 4000000 in
/-- exists(i) -/
theorem ct_X7_exists {l : Launch} (hl : l.stackTraces = false) (d : Nat) (g : Nat → Nat → Int) (M : Nat → Nat → Int) (hr : o_rl g 6 M) (hw : o_wl M) (i : Int) (hi : o_R i) : o_Ct l yX7_exists wX7_exists (d + 1) o_no [.ref 6, .int (o_I i)] o_N (o_mem g) 0 0 (o_is (some (.int (o_I (o_b (0 ≤ i ∧ i < M 0 1))))) o_N (o_mem g)) := by
  refine o_Ct.ofV hl mX7_exists (by decide +kernel) rfl rfl rfl (Nat.le_of_ble_eq_true rfl) ?_
  have hr1 := o_rl6 hr
  have hr0 := hr.1
  obtain ⟨hw0, hw1, hw2, hw3, hw4⟩ := id hw
  obtain ⟨hi1, hi2⟩ := hi
  refine o_iload_n dX7_exists_0 rfl ?_
  refine o_if_lt (tgt := 16) dX7_exists_1 (by decide) ⟨by omega, by omega⟩ (fun c_1 => ?_) (fun c_1 => ?_)
  · skip
    refine o_iconst dX7_exists_16 ?_
    refine o_ret1 dX7_exists_17 (by first | exact o_rb0 | exact o_rb1 | exact o_bn _) ?_
    exact o_isB (by simp [o_b]; omega)
  · skip
    refine o_iload_n dX7_exists_4 rfl ?_
    refine o_aload_n dX7_exists_5 rfl ?_
    refine o_gf dX7_exists_6 fl_X7_28 rfl (by decide) rfl ?_
    refine o_icmp_ge (tgt := 16) dX7_exists_9 (by decide) ⟨by omega, by omega⟩ ⟨by omega, by omega⟩ (fun c_9 => ?_) (fun c_9 => ?_)
    · skip
      refine o_iconst dX7_exists_16 ?_
      refine o_ret1 dX7_exists_17 (by first | exact o_rb0 | exact o_rb1 | exact o_bn _) ?_
      exact o_isB (by simp [o_b]; omega)
    · skip
      refine o_iconst dX7_exists_12 ?_
      refine o_goto (tgt := 17) dX7_exists_13 (by decide) ?_
      refine o_ret1 dX7_exists_17 (by first | exact o_rb0 | exact o_rb1 | exact o_bn _) ?_
      exact o_isB (by simp [o_b]; omega)
set_option maxRecDepth 100000 in
set_option maxHeartbeats 4000000 in
/-- isTaken(i) -/
theorem ct_X7_isTaken {l : Launch} (hl : l.stackTraces = false) (d : Nat) (g : Nat → Nat → Int) (M : Nat → Nat → Int) (hr : o_rl g 6 M) (hw : o_wl M) (i : Int) (hi : o_R i) : o_Ct l yX7_isTaken wX7_isTaken (d + 1) o_no [.ref 6, .int (o_I i)] o_N (o_mem g) 0 0 (o_is (some (.int (o_I (o_b (0 ≤ i ∧ i < M 0 1 ∧ 0 < M 5 (i.toNat)))))) o_N (o_mem g)) := by
  refine o_Ct.ofV hl mX7_isTaken (by decide +kernel) rfl rfl rfl (Nat.le_of_ble_eq_true rfl) ?_
  have hr1 := o_rl6 hr
  have hr0 := hr.1
  obtain ⟨hw0, hw1, hw2, hw3, hw4⟩ := id hw
  obtain ⟨hi1, hi2⟩ := hi
  refine o_iload_n dX7_isTaken_0 rfl ?_
  refine o_if_lt (tgt := 26) dX7_isTaken_1 (by decide) ⟨by omega, by omega⟩ (fun c_1 => ?_) (fun c_1 => ?_)
  · skip
    refine o_iconst dX7_isTaken_26 ?_
    refine o_ret1 dX7_isTaken_27 (by first | exact o_rb0 | exact o_rb1 | exact o_bn _) ?_
    exact o_isB (by simp [o_b]; omega)
  · skip
    refine o_iload_n dX7_isTaken_4 rfl ?_
    refine o_aload_n dX7_isTaken_5 rfl ?_
    refine o_gf dX7_isTaken_6 fl_X7_28 rfl (by decide) rfl ?_
    refine o_icmp_ge (tgt := 26) dX7_isTaken_9 (by decide) ⟨by omega, by omega⟩ ⟨by omega, by omega⟩ (fun c_9 => ?_) (fun c_9 => ?_)
    · skip
      refine o_iconst dX7_isTaken_26 ?_
      refine o_ret1 dX7_isTaken_27 (by first | exact o_rb0 | exact o_rb1 | exact o_bn _) ?_
      exact o_isB (by simp [o_b]; omega)
    · skip
      obtain ⟨j, rfl⟩ : ∃ j : Nat, (j : Int) = i := ⟨i.toNat, by omega⟩
      have hj := hr1 j (by omega)
      have hj4 := hw4 j (by omega)
      refine o_aload_n dX7_isTaken_12 rfl ?_
      refine o_gf dX7_isTaken_13 fl_X7_15 rfl (by decide) rfl ?_
      refine o_iload_n dX7_isTaken_16 rfl ?_
      refine o_ialdn (j := j) dX7_isTaken_17 (by decide) rfl (by decide) rfl (by omega) ?_
      refine o_iconst dX7_isTaken_18 ?_
      refine o_icmp_eq (tgt := 26) dX7_isTaken_19 (by decide) ⟨by omega, by omega⟩ ⟨by omega, by omega⟩ (fun c_19 => ?_) (fun c_19 => ?_)
      · skip
        refine o_iconst dX7_isTaken_26 ?_
        refine o_ret1 dX7_isTaken_27 (by first | exact o_rb0 | exact o_rb1 | exact o_bn _) ?_
        exact o_isB (by simp [o_b]; omega)
      · skip
        refine o_iconst dX7_isTaken_22 ?_
        refine o_goto (tgt := 27) dX7_isTaken_23 (by decide) ?_
        refine o_ret1 dX7_isTaken_27 (by first | exact o_rb0 | exact o_rb1 | exact o_bn _) ?_
        exact o_isB (by simp [o_b]; omega)
set_option maxRecDepth 100000 in
set_option maxHeartbeats 4000000 in
/-- isTakenBy(i, s) -/
theorem ct_X7_isTakenBy {l : Launch} (hl : l.stackTraces = false) (d : Nat) (g : Nat → Nat → Int) (M : Nat → Nat → Int) (hr : o_rl g 6 M) (hw : o_wl M) (i s : Int) (hi : o_R i) (hs : o_R s) : o_Ct l yX7_isTakenBy wX7_isTakenBy (d + 1) o_no [.ref 6, .int (o_I i), .int (o_I s)] o_N (o_mem g) 0 0 (o_is (some (.int (o_I (o_b (0 ≤ i ∧ i < M 0 1 ∧ M 5 (i.toNat) = s + 1))))) o_N (o_mem g)) := by
  refine o_Ct.ofV hl mX7_isTakenBy (by decide +kernel) rfl rfl rfl (Nat.le_of_ble_eq_true rfl) ?_
  have hr1 := o_rl6 hr
  have hr0 := hr.1
  obtain ⟨hw0, hw1, hw2, hw3, hw4⟩ := id hw
  obtain ⟨hi1, hi2⟩ := hi
  obtain ⟨hs1, hs2⟩ := hs
  refine o_iload_n dX7_isTakenBy_0 rfl ?_
  refine o_if_lt (tgt := 26) dX7_isTakenBy_1 (by decide) ⟨by omega, by omega⟩ (fun c_1 => ?_) (fun c_1 => ?_)
  · skip
    refine o_iconst dX7_isTakenBy_26 ?_
    refine o_ret1 dX7_isTakenBy_27 (by first | exact o_rb0 | exact o_rb1 | exact o_bn _) ?_
    exact o_isB (by simp [o_b]; omega)
  · skip
    refine o_iload_n dX7_isTakenBy_4 rfl ?_
    refine o_aload_n dX7_isTakenBy_5 rfl ?_
    refine o_gf dX7_isTakenBy_6 fl_X7_28 rfl (by decide) rfl ?_
    refine o_icmp_ge (tgt := 26) dX7_isTakenBy_9 (by decide) ⟨by omega, by omega⟩ ⟨by omega, by omega⟩ (fun c_9 => ?_) (fun c_9 => ?_)
    · skip
      refine o_iconst dX7_isTakenBy_26 ?_
      refine o_ret1 dX7_isTakenBy_27 (by first | exact o_rb0 | exact o_rb1 | exact o_bn _) ?_
      exact o_isB (by simp [o_b]; omega)
    · skip
      obtain ⟨j, rfl⟩ : ∃ j : Nat, (j : Int) = i := ⟨i.toNat, by omega⟩
      have hj := hr1 j (by omega)
      have hj4 := hw4 j (by omega)
      refine o_aload_n dX7_isTakenBy_12 rfl ?_
      refine o_gf dX7_isTakenBy_13 fl_X7_15 rfl (by decide) rfl ?_
      refine o_iload_n dX7_isTakenBy_16 rfl ?_
      refine o_ialdn (j := j) dX7_isTakenBy_17 (by decide) rfl (by decide) rfl (by omega) ?_
      refine o_iload_n dX7_isTakenBy_18 rfl ?_
      refine o_icmp_ne (tgt := 26) dX7_isTakenBy_19 (by decide) ⟨by omega, by omega⟩ ⟨by omega, by omega⟩ (fun c_19 => ?_) (fun c_19 => ?_)
      · skip
        refine o_iconst dX7_isTakenBy_26 ?_
        refine o_ret1 dX7_isTakenBy_27 (by first | exact o_rb0 | exact o_rb1 | exact o_bn _) ?_
        exact o_isB (by simp [o_b]; omega)
      · skip
        refine o_iconst dX7_isTakenBy_22 ?_
        refine o_goto (tgt := 27) dX7_isTakenBy_23 (by decide) ?_
        refine o_ret1 dX7_isTakenBy_27 (by first | exact o_rb0 | exact o_rb1 | exact o_bn _) ?_
        exact o_isB (by simp [o_b]; omega)
theorem o_bc {p q : Prop} [Decidable p] [Decidable q] (h : p ↔ q) : o_b p = o_b q := by
  unfold o_b
  by_cases hp : p
  · rw [if_pos hp, if_pos (h.mp hp)]
  · rw [if_neg hp, if_neg (fun z => hp (h.mpr z))]
theorem ct_isTakenN {l : Launch} (hl : l.stackTraces = false) (d : Nat) (g : Nat → Nat → Int) (M : Nat → Nat → Int) (hr : o_rl g 6 M) (hw : o_wl M) (i : Nat) (hi : (i : Int) < M 0 1) : o_Ct l yX7_isTaken wX7_isTaken (d + 1) o_no [.ref 6, .int (o_I i)] o_N (o_mem g) 0 0 (o_is (some (.int (o_I (o_b (0 < M 5 i))))) o_N (o_mem g)) := by
  have h := ct_X7_isTaken hl d g M hr hw i ⟨by omega, by have := hw.2.1; omega⟩
  rwa [o_bc (show (0 ≤ (i : Int) ∧ (i : Int) < M 0 1 ∧ 0 < M 5 ((i : Int).toNat)) ↔ 0 < M 5 i by simp only [Int.toNat_natCast]; omega)] at h
theorem ct_isTakenByN {l : Launch} (hl : l.stackTraces = false) (d : Nat) (g : Nat → Nat → Int) (M : Nat → Nat → Int) (hr : o_rl g 6 M) (hw : o_wl M) (i : Nat) (hi : (i : Int) < M 0 1) (s : Int) (hs : o_R s) : o_Ct l yX7_isTakenBy wX7_isTakenBy (d + 1) o_no [.ref 6, .int (o_I i), .int (o_I s)] o_N (o_mem g) 0 0 (o_is (some (.int (o_I (o_b (M 5 i = s + 1))))) o_N (o_mem g)) := by
  have h := ct_X7_isTakenBy hl d g M hr hw i s ⟨by omega, by have := hw.2.1; omega⟩ hs
  rwa [o_bc (show (0 ≤ (i : Int) ∧ (i : Int) < M 0 1 ∧ M 5 ((i : Int).toNat) = s + 1) ↔ M 5 i = s + 1 by simp only [Int.toNat_natCast]; omega)] at h
set_option maxRecDepth 100000 in
set_option maxHeartbeats 4000000 in
/-- countTaken() -/
theorem ct_X7_countTaken {l : Launch} (hl : l.stackTraces = false) (d : Nat) (g : Nat → Nat → Int) (M : Nat → Nat → Int) (hr : o_rl g 6 M) (hw : o_wl M) : o_Ct l yX7_countTaken wX7_countTaken (d + 2) o_no [.ref 6] o_N (o_mem g) 0 0 (o_is (some (.int (o_I (o_sm (fun i => o_b (0 < M 5 i)) (M 0 1).toNat)))) o_N (o_mem g)) := by
  refine o_Ct.ofV hl mX7_countTaken (by decide +kernel) rfl rfl rfl (Nat.le_of_ble_eq_true rfl) ?_
  have hr1 := o_rl6 hr
  have hr0 := hr.1
  obtain ⟨hw0, hw1, hw2, hw3, hw4⟩ := id hw
  obtain ⟨N, hN, hN8⟩ := o_N1 hw
  have key := o_lp (fun i => o_V l mX7_countTaken (d + 2) o_no (o_is (some (.int (o_I (o_sm (fun i => o_b (0 < M 5 i)) (M 0 1).toNat)))) o_N (o_mem g)) 4 [(0, .ref 6), (1, .int (o_I (o_sm (fun i => o_b (0 < M 5 i)) i))), (2, .int (o_I ((i : Nat) : Int)))] [] o_N (o_mem g) 0 0) N (fun i hi ih => by
    refine o_iload_n dX7_countTaken_4 rfl ?_
    refine o_aload_n dX7_countTaken_5 rfl ?_
    refine o_gf dX7_countTaken_6 fl_X7_28 rfl (by decide) rfl ?_
    refine o_icmp_ge (tgt := 29) dX7_countTaken_9 (by decide) ⟨by omega, by omega⟩ ⟨by omega, by omega⟩ (fun c_9 => ?_) (fun c_9 => ?_)
    · skip
      refine o_iload_n dX7_countTaken_29 rfl ?_
      refine o_ret1 dX7_countTaken_30 trivial ?_
      rw [show i = (M 0 1).toNat by omega]
      exact ⟨rfl, rfl, rfl⟩
    · skip
      refine o_aload_n dX7_countTaken_12 rfl ?_
      refine o_iload_n dX7_countTaken_13 rfl ?_
      refine o_cV _ (ct_isTakenN hl d g M hr hw i (by omega)) dX7_countTaken_14 ml_X7_32 yw_X7_isTaken rfl (by decide) (by omega) (by decide) rfl rfl rfl (Nat.le_of_ble_eq_true rfl) ?_
      refine o_ifb_eq (tgt := 23) dX7_countTaken_17 (by decide) (fun c_17 => ?_) (fun c_17 => ?_)
      · skip
        refine o_iinc dX7_countTaken_23 rfl (by decide) ?_
        refine o_goto (tgt := 4) dX7_countTaken_26 (by decide) ?_
        first
           | (have e : o_sm (fun i => o_b (0 < M 5 i)) (i + 1) = o_sm (fun i => o_b (0 < M 5 i)) i + 1 := (by simp only [o_sm, o_b1 c_17]); exact o_loc [(0, .ref 6), (1, .int (o_I (o_sm (fun i => o_b (0 < M 5 i)) (i + 1)))), (2, .int (o_I (((i + 1) : Nat) : Int)))] (by rw [e]; rfl) (ih (by omega)))
           | (have e : o_sm (fun i => o_b (0 < M 5 i)) (i + 1) = o_sm (fun i => o_b (0 < M 5 i)) i := (by simp only [o_sm, o_b0 c_17, Int.add_zero]); exact o_loc [(0, .ref 6), (1, .int (o_I (o_sm (fun i => o_b (0 < M 5 i)) (i + 1)))), (2, .int (o_I (((i + 1) : Nat) : Int)))] (by rw [e]; rfl) (ih (by omega)))
      · skip
        refine o_iinc dX7_countTaken_20 rfl (by decide) ?_
        refine o_iinc dX7_countTaken_23 rfl (by decide) ?_
        refine o_goto (tgt := 4) dX7_countTaken_26 (by decide) ?_
        first
           | (have e : o_sm (fun i => o_b (0 < M 5 i)) (i + 1) = o_sm (fun i => o_b (0 < M 5 i)) i + 1 := (by simp only [o_sm, o_b1 c_17]); exact o_loc [(0, .ref 6), (1, .int (o_I (o_sm (fun i => o_b (0 < M 5 i)) (i + 1)))), (2, .int (o_I (((i + 1) : Nat) : Int)))] (by rw [e]; rfl) (ih (by omega)))
           | (have e : o_sm (fun i => o_b (0 < M 5 i)) (i + 1) = o_sm (fun i => o_b (0 < M 5 i)) i := (by simp only [o_sm, o_b0 c_17, Int.add_zero]); exact o_loc [(0, .ref 6), (1, .int (o_I (o_sm (fun i => o_b (0 < M 5 i)) (i + 1)))), (2, .int (o_I (((i + 1) : Nat) : Int)))] (by rw [e]; rfl) (ih (by omega))))
  refine o_iconst dX7_countTaken_0 ?_
  refine o_istore_n dX7_countTaken_1 (by decide) ?_
  refine o_iconst dX7_countTaken_2 ?_
  refine o_istore_n dX7_countTaken_3 (by decide) ?_
  exact o_loc _ rfl (key 0 (Nat.zero_le _))
set_option maxRecDepth 100000 in
set_option maxHeartbeats 4000000 in
/-- countOf(s) -/
theorem ct_X7_countOf {l : Launch} (hl : l.stackTraces = false) (d : Nat) (g : Nat → Nat → Int) (M : Nat → Nat → Int) (hr : o_rl g 6 M) (hw : o_wl M) (s : Int) (hs : o_R s) : o_Ct l yX7_countOf wX7_countOf (d + 2) o_no [.ref 6, .int (o_I s)] o_N (o_mem g) 0 0 (o_is (some (.int (o_I (o_sm (fun i => o_b (M 5 i = s + 1)) (M 0 1).toNat)))) o_N (o_mem g)) := by
  refine o_Ct.ofV hl mX7_countOf (by decide +kernel) rfl rfl rfl (Nat.le_of_ble_eq_true rfl) ?_
  have hr1 := o_rl6 hr
  have hr0 := hr.1
  obtain ⟨hw0, hw1, hw2, hw3, hw4⟩ := id hw
  obtain ⟨N, hN, hN8⟩ := o_N1 hw
  have key := o_lp (fun i => o_V l mX7_countOf (d + 2) o_no (o_is (some (.int (o_I (o_sm (fun i => o_b (M 5 i = s + 1)) (M 0 1).toNat)))) o_N (o_mem g)) 4 [(0, .ref 6), (1, .int (o_I s)), (2, .int (o_I (o_sm (fun i => o_b (M 5 i = s + 1)) i))), (3, .int (o_I ((i : Nat) : Int)))] [] o_N (o_mem g) 0 0) N (fun i hi ih => by
    refine o_iload_n dX7_countOf_4 rfl ?_
    refine o_aload_n dX7_countOf_5 rfl ?_
    refine o_gf dX7_countOf_6 fl_X7_28 rfl (by decide) rfl ?_
    refine o_icmp_ge (tgt := 30) dX7_countOf_9 (by decide) ⟨by omega, by omega⟩ ⟨by omega, by omega⟩ (fun c_9 => ?_) (fun c_9 => ?_)
    · skip
      refine o_iload_n dX7_countOf_30 rfl ?_
      refine o_ret1 dX7_countOf_31 trivial ?_
      rw [show i = (M 0 1).toNat by omega]
      exact ⟨rfl, rfl, rfl⟩
    · skip
      refine o_aload_n dX7_countOf_12 rfl ?_
      refine o_iload_n dX7_countOf_13 rfl ?_
      refine o_iload_n dX7_countOf_14 rfl ?_
      refine o_cV _ (ct_isTakenByN hl d g M hr hw i (by omega) s hs) dX7_countOf_15 ml_X7_36 yw_X7_isTakenBy rfl (by decide) (by omega) (by decide) rfl rfl rfl (Nat.le_of_ble_eq_true rfl) ?_
      refine o_ifb_eq (tgt := 24) dX7_countOf_18 (by decide) (fun c_18 => ?_) (fun c_18 => ?_)
      · skip
        refine o_iinc dX7_countOf_24 rfl (by decide) ?_
        refine o_goto (tgt := 4) dX7_countOf_27 (by decide) ?_
        first
           | (have e : o_sm (fun i => o_b (M 5 i = s + 1)) (i + 1) = o_sm (fun i => o_b (M 5 i = s + 1)) i + 1 := (by simp only [o_sm, o_b1 c_18]); exact o_loc [(0, .ref 6), (1, .int (o_I s)), (2, .int (o_I (o_sm (fun i => o_b (M 5 i = s + 1)) (i + 1)))), (3, .int (o_I (((i + 1) : Nat) : Int)))] (by rw [e]; rfl) (ih (by omega)))
           | (have e : o_sm (fun i => o_b (M 5 i = s + 1)) (i + 1) = o_sm (fun i => o_b (M 5 i = s + 1)) i := (by simp only [o_sm, o_b0 c_18, Int.add_zero]); exact o_loc [(0, .ref 6), (1, .int (o_I s)), (2, .int (o_I (o_sm (fun i => o_b (M 5 i = s + 1)) (i + 1)))), (3, .int (o_I (((i + 1) : Nat) : Int)))] (by rw [e]; rfl) (ih (by omega)))
      · skip
        refine o_iinc dX7_countOf_21 rfl (by decide) ?_
        refine o_iinc dX7_countOf_24 rfl (by decide) ?_
        refine o_goto (tgt := 4) dX7_countOf_27 (by decide) ?_
        first
           | (have e : o_sm (fun i => o_b (M 5 i = s + 1)) (i + 1) = o_sm (fun i => o_b (M 5 i = s + 1)) i + 1 := (by simp only [o_sm, o_b1 c_18]); exact o_loc [(0, .ref 6), (1, .int (o_I s)), (2, .int (o_I (o_sm (fun i => o_b (M 5 i = s + 1)) (i + 1)))), (3, .int (o_I (((i + 1) : Nat) : Int)))] (by rw [e]; rfl) (ih (by omega)))
           | (have e : o_sm (fun i => o_b (M 5 i = s + 1)) (i + 1) = o_sm (fun i => o_b (M 5 i = s + 1)) i := (by simp only [o_sm, o_b0 c_18, Int.add_zero]); exact o_loc [(0, .ref 6), (1, .int (o_I s)), (2, .int (o_I (o_sm (fun i => o_b (M 5 i = s + 1)) (i + 1)))), (3, .int (o_I (((i + 1) : Nat) : Int)))] (by rw [e]; rfl) (ih (by omega))))
  refine o_iconst dX7_countOf_0 ?_
  refine o_istore_n dX7_countOf_1 (by decide) ?_
  refine o_iconst dX7_countOf_2 ?_
  refine o_istore_n dX7_countOf_3 (by decide) ?_
  exact o_loc _ rfl (key 0 (Nat.zero_le _))
set_option maxRecDepth 100000 in
set_option maxHeartbeats 4000000 in
/-- demandOf(s) -/
theorem ct_X7_demandOf {l : Launch} (hl : l.stackTraces = false) (d : Nat) (g : Nat → Nat → Int) (M : Nat → Nat → Int) (hr : o_rl g 6 M) (hw : o_wl M) (s : Int) (hs : o_R s) : o_Ct l yX7_demandOf wX7_demandOf (d + 2) o_no [.ref 6, .int (o_I s)] o_N (o_mem g) 0 0 (o_is (some (.int (o_I (o_sm (fun i => if M 5 i = s + 1 then M 4 i else 0) (M 0 1).toNat)))) o_N (o_mem g)) := by
  refine o_Ct.ofV hl mX7_demandOf (by decide +kernel) rfl rfl rfl (Nat.le_of_ble_eq_true rfl) ?_
  have hr1 := o_rl6 hr
  have hr0 := hr.1
  obtain ⟨hw0, hw1, hw2, hw3, hw4⟩ := id hw
  obtain ⟨N, hN, hN8⟩ := o_N1 hw
  have key := o_lp (fun i => o_V l mX7_demandOf (d + 2) o_no (o_is (some (.int (o_I (o_sm (fun i => if M 5 i = s + 1 then M 4 i else 0) (M 0 1).toNat)))) o_N (o_mem g)) 4 [(0, .ref 6), (1, .int (o_I s)), (2, .int (o_I (o_sm (fun i => if M 5 i = s + 1 then M 4 i else 0) i))), (3, .int (o_I ((i : Nat) : Int)))] [] o_N (o_mem g) 0 0) N (fun i hi ih => by
    refine o_iload_n dX7_demandOf_4 rfl ?_
    refine o_aload_n dX7_demandOf_5 rfl ?_
    refine o_gf dX7_demandOf_6 fl_X7_28 rfl (by decide) rfl ?_
    refine o_icmp_ge (tgt := 36) dX7_demandOf_9 (by decide) ⟨by omega, by omega⟩ ⟨by omega, by omega⟩ (fun c_9 => ?_) (fun c_9 => ?_)
    · skip
      refine o_iload_n dX7_demandOf_36 rfl ?_
      refine o_ret1 dX7_demandOf_37 trivial ?_
      rw [show i = (M 0 1).toNat by omega]
      exact ⟨rfl, rfl, rfl⟩
    · skip
      refine o_aload_n dX7_demandOf_12 rfl ?_
      refine o_iload_n dX7_demandOf_13 rfl ?_
      refine o_iload_n dX7_demandOf_14 rfl ?_
      refine o_cV _ (ct_isTakenByN hl d g M hr hw i (by omega) s hs) dX7_demandOf_15 ml_X7_36 yw_X7_isTakenBy rfl (by decide) (by omega) (by decide) rfl rfl rfl (Nat.le_of_ble_eq_true rfl) ?_
      refine o_ifb_eq (tgt := 30) dX7_demandOf_18 (by decide) (fun c_18 => ?_) (fun c_18 => ?_)
      · skip
        refine o_iinc dX7_demandOf_30 rfl (by decide) ?_
        refine o_goto (tgt := 4) dX7_demandOf_33 (by decide) ?_
        first
           | (have e : o_sm (fun i => if M 5 i = s + 1 then M 4 i else 0) (i + 1) = o_sm (fun i => if M 5 i = s + 1 then M 4 i else 0) i + g 7 i := (by simp only [o_sm, if_pos c_18]; rw [(hr1 i (by omega)).1]); exact o_loc [(0, .ref 6), (1, .int (o_I s)), (2, .int (o_I (o_sm (fun i => if M 5 i = s + 1 then M 4 i else 0) (i + 1)))), (3, .int (o_I (((i + 1) : Nat) : Int)))] (by rw [e]; rfl) (ih (by omega)))
           | (have e : o_sm (fun i => if M 5 i = s + 1 then M 4 i else 0) (i + 1) = o_sm (fun i => if M 5 i = s + 1 then M 4 i else 0) i := (by simp only [o_sm, if_neg c_18, Int.add_zero]); exact o_loc [(0, .ref 6), (1, .int (o_I s)), (2, .int (o_I (o_sm (fun i => if M 5 i = s + 1 then M 4 i else 0) (i + 1)))), (3, .int (o_I (((i + 1) : Nat) : Int)))] (by rw [e]; rfl) (ih (by omega)))
      · skip
        refine o_iload_n dX7_demandOf_21 rfl ?_
        refine o_aload_n dX7_demandOf_22 rfl ?_
        refine o_gf dX7_demandOf_23 fl_X7_9 rfl (by decide) rfl ?_
        refine o_iload_n dX7_demandOf_26 rfl ?_
        refine o_ialdn (j := i) dX7_demandOf_27 (by decide) rfl (by decide) rfl (by omega) ?_
        refine o_iadd dX7_demandOf_28 ?_
        refine o_istore_n dX7_demandOf_29 (by decide) ?_
        refine o_iinc dX7_demandOf_30 rfl (by decide) ?_
        refine o_goto (tgt := 4) dX7_demandOf_33 (by decide) ?_
        first
           | (have e : o_sm (fun i => if M 5 i = s + 1 then M 4 i else 0) (i + 1) = o_sm (fun i => if M 5 i = s + 1 then M 4 i else 0) i + g 7 i := (by simp only [o_sm, if_pos c_18]; rw [(hr1 i (by omega)).1]); exact o_loc [(0, .ref 6), (1, .int (o_I s)), (2, .int (o_I (o_sm (fun i => if M 5 i = s + 1 then M 4 i else 0) (i + 1)))), (3, .int (o_I (((i + 1) : Nat) : Int)))] (by rw [e]; rfl) (ih (by omega)))
           | (have e : o_sm (fun i => if M 5 i = s + 1 then M 4 i else 0) (i + 1) = o_sm (fun i => if M 5 i = s + 1 then M 4 i else 0) i := (by simp only [o_sm, if_neg c_18, Int.add_zero]); exact o_loc [(0, .ref 6), (1, .int (o_I s)), (2, .int (o_I (o_sm (fun i => if M 5 i = s + 1 then M 4 i else 0) (i + 1)))), (3, .int (o_I (((i + 1) : Nat) : Int)))] (by rw [e]; rfl) (ih (by omega))))
  refine o_iconst dX7_demandOf_0 ?_
  refine o_istore_n dX7_demandOf_1 (by decide) ?_
  refine o_iconst dX7_demandOf_2 ?_
  refine o_istore_n dX7_demandOf_3 (by decide) ?_
  exact o_loc _ rfl (key 0 (Nat.zero_le _))
set_option maxRecDepth 100000 in
set_option maxHeartbeats 4000000 in
/-- demandOfAll() -/
theorem ct_X7_demandOfAll {l : Launch} (hl : l.stackTraces = false) (d : Nat) (g : Nat → Nat → Int) (M : Nat → Nat → Int) (hr : o_rl g 6 M) (hw : o_wl M) : o_Ct l yX7_demandOfAll wX7_demandOfAll (d + 2) o_no [.ref 6] o_N (o_mem g) 0 0 (o_is (some (.int (o_I (o_sm (fun i => if 0 < M 5 i then M 4 i else 0) (M 0 1).toNat)))) o_N (o_mem g)) := by
  refine o_Ct.ofV hl mX7_demandOfAll (by decide +kernel) rfl rfl rfl (Nat.le_of_ble_eq_true rfl) ?_
  have hr1 := o_rl6 hr
  have hr0 := hr.1
  obtain ⟨hw0, hw1, hw2, hw3, hw4⟩ := id hw
  obtain ⟨N, hN, hN8⟩ := o_N1 hw
  have key := o_lp (fun i => o_V l mX7_demandOfAll (d + 2) o_no (o_is (some (.int (o_I (o_sm (fun i => if 0 < M 5 i then M 4 i else 0) (M 0 1).toNat)))) o_N (o_mem g)) 4 [(0, .ref 6), (1, .int (o_I (o_sm (fun i => if 0 < M 5 i then M 4 i else 0) i))), (2, .int (o_I ((i : Nat) : Int)))] [] o_N (o_mem g) 0 0) N (fun i hi ih => by
    refine o_iload_n dX7_demandOfAll_4 rfl ?_
    refine o_aload_n dX7_demandOfAll_5 rfl ?_
    refine o_gf dX7_demandOfAll_6 fl_X7_28 rfl (by decide) rfl ?_
    refine o_icmp_ge (tgt := 35) dX7_demandOfAll_9 (by decide) ⟨by omega, by omega⟩ ⟨by omega, by omega⟩ (fun c_9 => ?_) (fun c_9 => ?_)
    · skip
      refine o_iload_n dX7_demandOfAll_35 rfl ?_
      refine o_ret1 dX7_demandOfAll_36 trivial ?_
      rw [show i = (M 0 1).toNat by omega]
      exact ⟨rfl, rfl, rfl⟩
    · skip
      refine o_aload_n dX7_demandOfAll_12 rfl ?_
      refine o_iload_n dX7_demandOfAll_13 rfl ?_
      refine o_cV _ (ct_isTakenN hl d g M hr hw i (by omega)) dX7_demandOfAll_14 ml_X7_32 yw_X7_isTaken rfl (by decide) (by omega) (by decide) rfl rfl rfl (Nat.le_of_ble_eq_true rfl) ?_
      refine o_ifb_eq (tgt := 29) dX7_demandOfAll_17 (by decide) (fun c_17 => ?_) (fun c_17 => ?_)
      · skip
        refine o_iinc dX7_demandOfAll_29 rfl (by decide) ?_
        refine o_goto (tgt := 4) dX7_demandOfAll_32 (by decide) ?_
        first
           | (have e : o_sm (fun i => if 0 < M 5 i then M 4 i else 0) (i + 1) = o_sm (fun i => if 0 < M 5 i then M 4 i else 0) i + g 7 i := (by simp only [o_sm, if_pos c_17]; rw [(hr1 i (by omega)).1]); exact o_loc [(0, .ref 6), (1, .int (o_I (o_sm (fun i => if 0 < M 5 i then M 4 i else 0) (i + 1)))), (2, .int (o_I (((i + 1) : Nat) : Int)))] (by rw [e]; rfl) (ih (by omega)))
           | (have e : o_sm (fun i => if 0 < M 5 i then M 4 i else 0) (i + 1) = o_sm (fun i => if 0 < M 5 i then M 4 i else 0) i := (by simp only [o_sm, if_neg c_17, Int.add_zero]); exact o_loc [(0, .ref 6), (1, .int (o_I (o_sm (fun i => if 0 < M 5 i then M 4 i else 0) (i + 1)))), (2, .int (o_I (((i + 1) : Nat) : Int)))] (by rw [e]; rfl) (ih (by omega)))
      · skip
        refine o_iload_n dX7_demandOfAll_20 rfl ?_
        refine o_aload_n dX7_demandOfAll_21 rfl ?_
        refine o_gf dX7_demandOfAll_22 fl_X7_9 rfl (by decide) rfl ?_
        refine o_iload_n dX7_demandOfAll_25 rfl ?_
        refine o_ialdn (j := i) dX7_demandOfAll_26 (by decide) rfl (by decide) rfl (by omega) ?_
        refine o_iadd dX7_demandOfAll_27 ?_
        refine o_istore_n dX7_demandOfAll_28 (by decide) ?_
        refine o_iinc dX7_demandOfAll_29 rfl (by decide) ?_
        refine o_goto (tgt := 4) dX7_demandOfAll_32 (by decide) ?_
        first
           | (have e : o_sm (fun i => if 0 < M 5 i then M 4 i else 0) (i + 1) = o_sm (fun i => if 0 < M 5 i then M 4 i else 0) i + g 7 i := (by simp only [o_sm, if_pos c_17]; rw [(hr1 i (by omega)).1]); exact o_loc [(0, .ref 6), (1, .int (o_I (o_sm (fun i => if 0 < M 5 i then M 4 i else 0) (i + 1)))), (2, .int (o_I (((i + 1) : Nat) : Int)))] (by rw [e]; rfl) (ih (by omega)))
           | (have e : o_sm (fun i => if 0 < M 5 i then M 4 i else 0) (i + 1) = o_sm (fun i => if 0 < M 5 i then M 4 i else 0) i := (by simp only [o_sm, if_neg c_17, Int.add_zero]); exact o_loc [(0, .ref 6), (1, .int (o_I (o_sm (fun i => if 0 < M 5 i then M 4 i else 0) (i + 1)))), (2, .int (o_I (((i + 1) : Nat) : Int)))] (by rw [e]; rfl) (ih (by omega))))
  refine o_iconst dX7_demandOfAll_0 ?_
  refine o_istore_n dX7_demandOfAll_1 (by decide) ?_
  refine o_iconst dX7_demandOfAll_2 ?_
  refine o_istore_n dX7_demandOfAll_3 (by decide) ?_
  exact o_loc _ rfl (key 0 (Nat.zero_le _))
set_option maxRecDepth 100000 in
set_option maxHeartbeats 4000000 in
/-- demandAfter(s) -/
theorem ct_X7_demandAfter {l : Launch} (hl : l.stackTraces = false) (d : Nat) (g : Nat → Nat → Int) (M : Nat → Nat → Int) (hr : o_rl g 6 M) (hw : o_wl M) (s : Int) (hs : o_R s) : o_Ct l yX7_demandAfter wX7_demandAfter (d + 2) o_no [.ref 6, .int (o_I s)] o_N (o_mem g) 0 0 (o_is (some (.int (o_I (o_sm (fun i => if 0 < M 5 i ∧ s < M 6 i then M 4 i else 0) (M 0 1).toNat)))) o_N (o_mem g)) := by
  refine o_Ct.ofV hl mX7_demandAfter (by decide +kernel) rfl rfl rfl (Nat.le_of_ble_eq_true rfl) ?_
  have hr1 := o_rl6 hr
  have hr0 := hr.1
  obtain ⟨hw0, hw1, hw2, hw3, hw4⟩ := id hw
  obtain ⟨N, hN, hN8⟩ := o_N1 hw
  have key := o_lp (fun i => o_V l mX7_demandAfter (d + 2) o_no (o_is (some (.int (o_I (o_sm (fun i => if 0 < M 5 i ∧ s < M 6 i then M 4 i else 0) (M 0 1).toNat)))) o_N (o_mem g)) 4 [(0, .ref 6), (1, .int (o_I s)), (2, .int (o_I (o_sm (fun i => if 0 < M 5 i ∧ s < M 6 i then M 4 i else 0) i))), (3, .int (o_I ((i : Nat) : Int)))] [] o_N (o_mem g) 0 0) N (fun i hi ih => by
    refine o_iload_n dX7_demandAfter_4 rfl ?_
    refine o_aload_n dX7_demandAfter_5 rfl ?_
    refine o_gf dX7_demandAfter_6 fl_X7_28 rfl (by decide) rfl ?_
    refine o_icmp_ge (tgt := 45) dX7_demandAfter_9 (by decide) ⟨by omega, by omega⟩ ⟨by omega, by omega⟩ (fun c_9 => ?_) (fun c_9 => ?_)
    · skip
      refine o_iload_n dX7_demandAfter_45 rfl ?_
      refine o_ret1 dX7_demandAfter_46 trivial ?_
      rw [show i = (M 0 1).toNat by omega]
      exact ⟨rfl, rfl, rfl⟩
    · skip
      refine o_aload_n dX7_demandAfter_12 rfl ?_
      refine o_iload_n dX7_demandAfter_13 rfl ?_
      refine o_cV _ (ct_isTakenN hl d g M hr hw i (by omega)) dX7_demandAfter_14 ml_X7_32 yw_X7_isTaken rfl (by decide) (by omega) (by decide) rfl rfl rfl (Nat.le_of_ble_eq_true rfl) ?_
      refine o_ifb_eq (tgt := 39) dX7_demandAfter_17 (by decide) (fun c_17 => ?_) (fun c_17 => ?_)
      · skip
        refine o_iinc dX7_demandAfter_39 rfl (by decide) ?_
        refine o_goto (tgt := 4) dX7_demandAfter_42 (by decide) ?_
        first
           | (have e : o_sm (fun i => if 0 < M 5 i ∧ s < M 6 i then M 4 i else 0) (i + 1) = o_sm (fun i => if 0 < M 5 i ∧ s < M 6 i then M 4 i else 0) i + g 7 i := (by have hj := hr1 i (by omega); simp only [o_sm]; rw [if_pos ⟨c_17, by omega⟩, hj.1]); exact o_loc [(0, .ref 6), (1, .int (o_I s)), (2, .int (o_I (o_sm (fun i => if 0 < M 5 i ∧ s < M 6 i then M 4 i else 0) (i + 1)))), (3, .int (o_I (((i + 1) : Nat) : Int)))] (by rw [e]; rfl) (ih (by omega)))
           | (have e : o_sm (fun i => if 0 < M 5 i ∧ s < M 6 i then M 4 i else 0) (i + 1) = o_sm (fun i => if 0 < M 5 i ∧ s < M 6 i then M 4 i else 0) i := (by have hj := hr1 i (by omega); simp only [o_sm]; rw [if_neg (fun z => by have := z.1; have := z.2; omega), Int.add_zero]); exact o_loc [(0, .ref 6), (1, .int (o_I s)), (2, .int (o_I (o_sm (fun i => if 0 < M 5 i ∧ s < M 6 i then M 4 i else 0) (i + 1)))), (3, .int (o_I (((i + 1) : Nat) : Int)))] (by rw [e]; rfl) (ih (by omega)))
      · skip
        have hj := hr1 i (by omega)
        have hj4 := hw4 i (by omega)
        obtain ⟨hs1, hs2⟩ := id hs
        refine o_aload_n dX7_demandAfter_20 rfl ?_
        refine o_gf dX7_demandAfter_21 fl_X7_18 rfl (by decide) rfl ?_
        refine o_iload_n dX7_demandAfter_24 rfl ?_
        refine o_ialdn (j := i) dX7_demandAfter_25 (by decide) rfl (by decide) rfl (by omega) ?_
        refine o_iload_n dX7_demandAfter_26 rfl ?_
        refine o_icmp_le (tgt := 39) dX7_demandAfter_27 (by decide) ⟨by omega, by omega⟩ ⟨by omega, by omega⟩ (fun c_27 => ?_) (fun c_27 => ?_)
        · skip
          refine o_iinc dX7_demandAfter_39 rfl (by decide) ?_
          refine o_goto (tgt := 4) dX7_demandAfter_42 (by decide) ?_
          first
             | (have e : o_sm (fun i => if 0 < M 5 i ∧ s < M 6 i then M 4 i else 0) (i + 1) = o_sm (fun i => if 0 < M 5 i ∧ s < M 6 i then M 4 i else 0) i + g 7 i := (by have hj := hr1 i (by omega); simp only [o_sm]; rw [if_pos ⟨c_17, by omega⟩, hj.1]); exact o_loc [(0, .ref 6), (1, .int (o_I s)), (2, .int (o_I (o_sm (fun i => if 0 < M 5 i ∧ s < M 6 i then M 4 i else 0) (i + 1)))), (3, .int (o_I (((i + 1) : Nat) : Int)))] (by rw [e]; rfl) (ih (by omega)))
             | (have e : o_sm (fun i => if 0 < M 5 i ∧ s < M 6 i then M 4 i else 0) (i + 1) = o_sm (fun i => if 0 < M 5 i ∧ s < M 6 i then M 4 i else 0) i := (by have hj := hr1 i (by omega); simp only [o_sm]; rw [if_neg (fun z => by have := z.1; have := z.2; omega), Int.add_zero]); exact o_loc [(0, .ref 6), (1, .int (o_I s)), (2, .int (o_I (o_sm (fun i => if 0 < M 5 i ∧ s < M 6 i then M 4 i else 0) (i + 1)))), (3, .int (o_I (((i + 1) : Nat) : Int)))] (by rw [e]; rfl) (ih (by omega)))
        · skip
          refine o_iload_n dX7_demandAfter_30 rfl ?_
          refine o_aload_n dX7_demandAfter_31 rfl ?_
          refine o_gf dX7_demandAfter_32 fl_X7_9 rfl (by decide) rfl ?_
          refine o_iload_n dX7_demandAfter_35 rfl ?_
          refine o_ialdn (j := i) dX7_demandAfter_36 (by decide) rfl (by decide) rfl (by omega) ?_
          refine o_iadd dX7_demandAfter_37 ?_
          refine o_istore_n dX7_demandAfter_38 (by decide) ?_
          refine o_iinc dX7_demandAfter_39 rfl (by decide) ?_
          refine o_goto (tgt := 4) dX7_demandAfter_42 (by decide) ?_
          first
             | (have e : o_sm (fun i => if 0 < M 5 i ∧ s < M 6 i then M 4 i else 0) (i + 1) = o_sm (fun i => if 0 < M 5 i ∧ s < M 6 i then M 4 i else 0) i + g 7 i := (by have hj := hr1 i (by omega); simp only [o_sm]; rw [if_pos ⟨c_17, by omega⟩, hj.1]); exact o_loc [(0, .ref 6), (1, .int (o_I s)), (2, .int (o_I (o_sm (fun i => if 0 < M 5 i ∧ s < M 6 i then M 4 i else 0) (i + 1)))), (3, .int (o_I (((i + 1) : Nat) : Int)))] (by rw [e]; rfl) (ih (by omega)))
             | (have e : o_sm (fun i => if 0 < M 5 i ∧ s < M 6 i then M 4 i else 0) (i + 1) = o_sm (fun i => if 0 < M 5 i ∧ s < M 6 i then M 4 i else 0) i := (by have hj := hr1 i (by omega); simp only [o_sm]; rw [if_neg (fun z => by have := z.1; have := z.2; omega), Int.add_zero]); exact o_loc [(0, .ref 6), (1, .int (o_I s)), (2, .int (o_I (o_sm (fun i => if 0 < M 5 i ∧ s < M 6 i then M 4 i else 0) (i + 1)))), (3, .int (o_I (((i + 1) : Nat) : Int)))] (by rw [e]; rfl) (ih (by omega))))
  refine o_iconst dX7_demandAfter_0 ?_
  refine o_istore_n dX7_demandAfter_1 (by decide) ?_
  refine o_iconst dX7_demandAfter_2 ?_
  refine o_istore_n dX7_demandAfter_3 (by decide) ?_
  exact o_loc _ rfl (key 0 (Nat.zero_le _))
def o_rkL (M : Nat → Nat → Int) (j : Nat) : Int := o_sm (fun i => o_b (0 < M 5 i ∧ (M 6 i < M 6 j ∨ (M 6 i = M 6 j ∧ (M 4 j < M 4 i ∨ (M 4 j = M 4 i ∧ i < j)))))) (M 0 1).toNat
/-- r is the first place below N where p holds, or -1 -/
def o_fst (p : Nat → Prop) (N : Nat) (r : Int) : Prop := (r = -1 ∧ ∀ j, j < N → ¬ p j) ∨ ∃ i : Nat, r = i ∧ i < N ∧ p i ∧ ∀ j, j < i → ¬ p j
theorem o_fst_at {p : Nat → Prop} {N i : Nat} {r : Int} (h : o_fst p N r) (hi : i < N) (hp : p i) (hn : ∀ j, j < i → ¬ p j) : r = i := by
  rcases h with ⟨-, h⟩ | ⟨k, rfl, h1, h2, h3⟩
  · exact absurd hp (h i hi)
  · rcases Nat.lt_trichotomy k i with q | q | q
    · exact absurd h2 (hn k q)
    · rw [q]
    · exact absurd hp (h3 i q)
theorem o_fst_no {p : Nat → Prop} {N : Nat} {r : Int} (h : o_fst p N r) (hn : ∀ j, j < N → ¬ p j) : r = -1 := by
  rcases h with ⟨h, -⟩ | ⟨k, -, h1, h2, -⟩
  · exact h
  · exact absurd h2 (hn k h1)
theorem o_fst_ex (p : Nat → Prop) (N : Nat) : ∃ r, o_fst p N r := by
  induction N with
  | zero => exact ⟨-1, Or.inl ⟨rfl, fun j hj => absurd hj (Nat.not_lt_zero j)⟩⟩
  | succ N ih =>
    obtain ⟨r, h⟩ := ih
    rcases h with ⟨h1, h2⟩ | ⟨k, h1, h2, h3, h4⟩
    · by_cases hp : p N
      · exact ⟨N, Or.inr ⟨N, rfl, Nat.lt_succ_self N, hp, h2⟩⟩
      · exact ⟨-1, Or.inl ⟨rfl, fun j hj => by rcases Nat.lt_succ_iff_lt_or_eq.mp hj with q | q; exact h2 j q; rw [q]; exact hp⟩⟩
    · exact ⟨r, Or.inr ⟨k, h1, Nat.lt_succ_of_lt h2, h3, h4⟩⟩
set_option maxRecDepth 100000 in
set_option maxHeartbeats 4000000 in
/-- isBefore(i, j) -/
theorem ct_X7_isBefore {l : Launch} (hl : l.stackTraces = false) (d : Nat) (g : Nat → Nat → Int) (M : Nat → Nat → Int) (hr : o_rl g 6 M) (hw : o_wl M) (i j : Nat) (hi : (i : Int) < M 0 1) (hj : (j : Int) < M 0 1) : o_Ct l yX7_isBefore wX7_isBefore (d + 1) o_no [.ref 6, .int (o_I i), .int (o_I j)] o_N (o_mem g) 0 0 (o_is (some (.int (o_I (o_b (M 6 i < M 6 j ∨ (M 6 i = M 6 j ∧ (M 4 j < M 4 i ∨ (M 4 j = M 4 i ∧ i < j)))))))) o_N (o_mem g)) := by
  refine o_Ct.ofV hl mX7_isBefore (by decide +kernel) rfl rfl rfl (Nat.le_of_ble_eq_true rfl) ?_
  have hr1 := o_rl6 hr
  have hr0 := hr.1
  obtain ⟨hw0, hw1, hw2, hw3, hw4⟩ := id hw
  have h1 := hr1 i hi
  have h2 := hr1 j hj
  have h3 := hw4 i hi
  have h4 := hw4 j hj
  refine o_aload_n dX7_isBefore_0 rfl ?_
  refine o_gf dX7_isBefore_1 fl_X7_18 rfl (by decide) rfl ?_
  refine o_iload_n dX7_isBefore_4 rfl ?_
  refine o_ialdn (j := i) dX7_isBefore_5 (by decide) rfl (by decide) rfl (by omega) ?_
  refine o_aload_n dX7_isBefore_6 rfl ?_
  refine o_gf dX7_isBefore_7 fl_X7_18 rfl (by decide) rfl ?_
  refine o_iload_n dX7_isBefore_10 rfl ?_
  refine o_ialdn (j := j) dX7_isBefore_11 (by decide) rfl (by decide) rfl (by omega) ?_
  refine o_icmp_eq (tgt := 36) dX7_isBefore_12 (by decide) ⟨by omega, by omega⟩ ⟨by omega, by omega⟩ (fun c_12 => ?_) (fun c_12 => ?_)
  · skip
    refine o_aload_n dX7_isBefore_36 rfl ?_
    refine o_gf dX7_isBefore_37 fl_X7_9 rfl (by decide) rfl ?_
    refine o_iload_n dX7_isBefore_40 rfl ?_
    refine o_ialdn (j := i) dX7_isBefore_41 (by decide) rfl (by decide) rfl (by omega) ?_
    refine o_aload_n dX7_isBefore_42 rfl ?_
    refine o_gf dX7_isBefore_43 fl_X7_9 rfl (by decide) rfl ?_
    refine o_iload_n dX7_isBefore_46 rfl ?_
    refine o_ialdn (j := j) dX7_isBefore_47 (by decide) rfl (by decide) rfl (by omega) ?_
    refine o_icmp_eq (tgt := 72) dX7_isBefore_48 (by decide) ⟨by omega, by omega⟩ ⟨by omega, by omega⟩ (fun c_48 => ?_) (fun c_48 => ?_)
    · skip
      refine o_iload_n dX7_isBefore_72 rfl ?_
      refine o_iload_n dX7_isBefore_73 rfl ?_
      refine o_icmp_ge (tgt := 81) dX7_isBefore_74 (by decide) ⟨by omega, by omega⟩ ⟨by omega, by omega⟩ (fun c_74 => ?_) (fun c_74 => ?_)
      · skip
        refine o_iconst dX7_isBefore_81 ?_
        refine o_ret1 dX7_isBefore_82 (by first | exact o_rb0 | exact o_rb1 | exact o_bn _) ?_
        exact o_isB (by simp [o_b]; omega)
      · skip
        refine o_iconst dX7_isBefore_77 ?_
        refine o_goto (tgt := 82) dX7_isBefore_78 (by decide) ?_
        refine o_ret1 dX7_isBefore_82 (by first | exact o_rb0 | exact o_rb1 | exact o_bn _) ?_
        exact o_isB (by simp [o_b]; omega)
    · skip
      refine o_aload_n dX7_isBefore_51 rfl ?_
      refine o_gf dX7_isBefore_52 fl_X7_9 rfl (by decide) rfl ?_
      refine o_iload_n dX7_isBefore_55 rfl ?_
      refine o_ialdn (j := i) dX7_isBefore_56 (by decide) rfl (by decide) rfl (by omega) ?_
      refine o_aload_n dX7_isBefore_57 rfl ?_
      refine o_gf dX7_isBefore_58 fl_X7_9 rfl (by decide) rfl ?_
      refine o_iload_n dX7_isBefore_61 rfl ?_
      refine o_ialdn (j := j) dX7_isBefore_62 (by decide) rfl (by decide) rfl (by omega) ?_
      refine o_icmp_le (tgt := 70) dX7_isBefore_63 (by decide) ⟨by omega, by omega⟩ ⟨by omega, by omega⟩ (fun c_63 => ?_) (fun c_63 => ?_)
      · skip
        refine o_iconst dX7_isBefore_70 ?_
        refine o_ret1 dX7_isBefore_71 (by first | exact o_rb0 | exact o_rb1 | exact o_bn _) ?_
        exact o_isB (by simp [o_b]; omega)
      · skip
        refine o_iconst dX7_isBefore_66 ?_
        refine o_goto (tgt := 71) dX7_isBefore_67 (by decide) ?_
        refine o_ret1 dX7_isBefore_71 (by first | exact o_rb0 | exact o_rb1 | exact o_bn _) ?_
        exact o_isB (by simp [o_b]; omega)
  · skip
    refine o_aload_n dX7_isBefore_15 rfl ?_
    refine o_gf dX7_isBefore_16 fl_X7_18 rfl (by decide) rfl ?_
    refine o_iload_n dX7_isBefore_19 rfl ?_
    refine o_ialdn (j := i) dX7_isBefore_20 (by decide) rfl (by decide) rfl (by omega) ?_
    refine o_aload_n dX7_isBefore_21 rfl ?_
    refine o_gf dX7_isBefore_22 fl_X7_18 rfl (by decide) rfl ?_
    refine o_iload_n dX7_isBefore_25 rfl ?_
    refine o_ialdn (j := j) dX7_isBefore_26 (by decide) rfl (by decide) rfl (by omega) ?_
    refine o_icmp_ge (tgt := 34) dX7_isBefore_27 (by decide) ⟨by omega, by omega⟩ ⟨by omega, by omega⟩ (fun c_27 => ?_) (fun c_27 => ?_)
    · skip
      refine o_iconst dX7_isBefore_34 ?_
      refine o_ret1 dX7_isBefore_35 (by first | exact o_rb0 | exact o_rb1 | exact o_bn _) ?_
      exact o_isB (by simp [o_b]; omega)
    · skip
      refine o_iconst dX7_isBefore_30 ?_
      refine o_goto (tgt := 35) dX7_isBefore_31 (by decide) ?_
      refine o_ret1 dX7_isBefore_35 (by first | exact o_rb0 | exact o_rb1 | exact o_bn _) ?_
      exact o_isB (by simp [o_b]; omega)
set_option maxRecDepth 100000 in
set_option maxHeartbeats 4000000 in
/-- rankOf(j) -/
theorem ct_X7_rankOf {l : Launch} (hl : l.stackTraces = false) (d : Nat) (g : Nat → Nat → Int) (M : Nat → Nat → Int) (hr : o_rl g 6 M) (hw : o_wl M) (j : Nat) (hj : (j : Int) < M 0 1) : o_Ct l yX7_rankOf wX7_rankOf (d + 2) o_no [.ref 6, .int (o_I j)] o_N (o_mem g) 0 0 (o_is (some (.int (o_I (o_sm (fun i => o_b (0 < M 5 i ∧ (M 6 i < M 6 j ∨ (M 6 i = M 6 j ∧ (M 4 j < M 4 i ∨ (M 4 j = M 4 i ∧ i < j)))))) (M 0 1).toNat)))) o_N (o_mem g)) := by
  refine o_Ct.ofV hl mX7_rankOf (by decide +kernel) rfl rfl rfl (Nat.le_of_ble_eq_true rfl) ?_
  have hr1 := o_rl6 hr
  have hr0 := hr.1
  obtain ⟨hw0, hw1, hw2, hw3, hw4⟩ := id hw
  obtain ⟨N, hN, hN8⟩ := o_N1 hw
  have key := o_lp (fun i => o_V l mX7_rankOf (d + 2) o_no (o_is (some (.int (o_I (o_sm (fun i => o_b (0 < M 5 i ∧ (M 6 i < M 6 j ∨ (M 6 i = M 6 j ∧ (M 4 j < M 4 i ∨ (M 4 j = M 4 i ∧ i < j)))))) (M 0 1).toNat)))) o_N (o_mem g)) 4 [(0, .ref 6), (1, .int (o_I j)), (2, .int (o_I (o_sm (fun i => o_b (0 < M 5 i ∧ (M 6 i < M 6 j ∨ (M 6 i = M 6 j ∧ (M 4 j < M 4 i ∨ (M 4 j = M 4 i ∧ i < j)))))) i))), (3, .int (o_I ((i : Nat) : Int)))] [] o_N (o_mem g) 0 0) N (fun i hi ih => by
    refine o_iload_n dX7_rankOf_4 rfl ?_
    refine o_aload_n dX7_rankOf_5 rfl ?_
    refine o_gf dX7_rankOf_6 fl_X7_28 rfl (by decide) rfl ?_
    refine o_icmp_ge (tgt := 38) dX7_rankOf_9 (by decide) ⟨by omega, by omega⟩ ⟨by omega, by omega⟩ (fun c_9 => ?_) (fun c_9 => ?_)
    · skip
      refine o_iload_n dX7_rankOf_38 rfl ?_
      refine o_ret1 dX7_rankOf_39 trivial ?_
      rw [show i = (M 0 1).toNat by omega]
      exact ⟨rfl, rfl, rfl⟩
    · skip
      refine o_aload_n dX7_rankOf_12 rfl ?_
      refine o_iload_n dX7_rankOf_13 rfl ?_
      refine o_cV _ (ct_isTakenN hl d g M hr hw i (by omega)) dX7_rankOf_14 ml_X7_32 yw_X7_isTaken rfl (by decide) (by omega) (by decide) rfl rfl rfl (Nat.le_of_ble_eq_true rfl) ?_
      refine o_ifb_eq (tgt := 32) dX7_rankOf_17 (by decide) (fun c_17 => ?_) (fun c_17 => ?_)
      · skip
        refine o_iinc dX7_rankOf_32 rfl (by decide) ?_
        refine o_goto (tgt := 4) dX7_rankOf_35 (by decide) ?_
        first
           | (have e : o_sm (fun i => o_b (0 < M 5 i ∧ (M 6 i < M 6 j ∨ (M 6 i = M 6 j ∧ (M 4 j < M 4 i ∨ (M 4 j = M 4 i ∧ i < j)))))) (i + 1) = o_sm (fun i => o_b (0 < M 5 i ∧ (M 6 i < M 6 j ∨ (M 6 i = M 6 j ∧ (M 4 j < M 4 i ∨ (M 4 j = M 4 i ∧ i < j)))))) i + 1 := (by simp only [o_sm]; rw [o_b1 ⟨c_17, c_26⟩]); exact o_loc [(0, .ref 6), (1, .int (o_I j)), (2, .int (o_I (o_sm (fun i => o_b (0 < M 5 i ∧ (M 6 i < M 6 j ∨ (M 6 i = M 6 j ∧ (M 4 j < M 4 i ∨ (M 4 j = M 4 i ∧ i < j)))))) (i + 1)))), (3, .int (o_I (((i + 1) : Nat) : Int)))] (by rw [e]; rfl) (ih (by omega)))
           | (have e : o_sm (fun i => o_b (0 < M 5 i ∧ (M 6 i < M 6 j ∨ (M 6 i = M 6 j ∧ (M 4 j < M 4 i ∨ (M 4 j = M 4 i ∧ i < j)))))) (i + 1) = o_sm (fun i => o_b (0 < M 5 i ∧ (M 6 i < M 6 j ∨ (M 6 i = M 6 j ∧ (M 4 j < M 4 i ∨ (M 4 j = M 4 i ∧ i < j)))))) i := (by simp only [o_sm]; rw [o_b0 (fun z => c_26 z.2), Int.add_zero]); exact o_loc [(0, .ref 6), (1, .int (o_I j)), (2, .int (o_I (o_sm (fun i => o_b (0 < M 5 i ∧ (M 6 i < M 6 j ∨ (M 6 i = M 6 j ∧ (M 4 j < M 4 i ∨ (M 4 j = M 4 i ∧ i < j)))))) (i + 1)))), (3, .int (o_I (((i + 1) : Nat) : Int)))] (by rw [e]; rfl) (ih (by omega)))
           | (have e : o_sm (fun i => o_b (0 < M 5 i ∧ (M 6 i < M 6 j ∨ (M 6 i = M 6 j ∧ (M 4 j < M 4 i ∨ (M 4 j = M 4 i ∧ i < j)))))) (i + 1) = o_sm (fun i => o_b (0 < M 5 i ∧ (M 6 i < M 6 j ∨ (M 6 i = M 6 j ∧ (M 4 j < M 4 i ∨ (M 4 j = M 4 i ∧ i < j)))))) i := (by simp only [o_sm]; rw [o_b0 (fun z => c_17 z.1), Int.add_zero]); exact o_loc [(0, .ref 6), (1, .int (o_I j)), (2, .int (o_I (o_sm (fun i => o_b (0 < M 5 i ∧ (M 6 i < M 6 j ∨ (M 6 i = M 6 j ∧ (M 4 j < M 4 i ∨ (M 4 j = M 4 i ∧ i < j)))))) (i + 1)))), (3, .int (o_I (((i + 1) : Nat) : Int)))] (by rw [e]; rfl) (ih (by omega)))
      · skip
        refine o_aload_n dX7_rankOf_20 rfl ?_
        refine o_iload_n dX7_rankOf_21 rfl ?_
        refine o_iload_n dX7_rankOf_22 rfl ?_
        refine o_cV _ (ct_X7_isBefore hl d g M hr hw i j (by omega) hj) dX7_rankOf_23 ml_X7_44 yw_X7_isBefore rfl (by decide) (by omega) (by decide) rfl rfl rfl (Nat.le_of_ble_eq_true rfl) ?_
        refine o_ifb_eq (tgt := 32) dX7_rankOf_26 (by decide) (fun c_26 => ?_) (fun c_26 => ?_)
        · skip
          refine o_iinc dX7_rankOf_32 rfl (by decide) ?_
          refine o_goto (tgt := 4) dX7_rankOf_35 (by decide) ?_
          first
             | (have e : o_sm (fun i => o_b (0 < M 5 i ∧ (M 6 i < M 6 j ∨ (M 6 i = M 6 j ∧ (M 4 j < M 4 i ∨ (M 4 j = M 4 i ∧ i < j)))))) (i + 1) = o_sm (fun i => o_b (0 < M 5 i ∧ (M 6 i < M 6 j ∨ (M 6 i = M 6 j ∧ (M 4 j < M 4 i ∨ (M 4 j = M 4 i ∧ i < j)))))) i + 1 := (by simp only [o_sm]; rw [o_b1 ⟨c_17, c_26⟩]); exact o_loc [(0, .ref 6), (1, .int (o_I j)), (2, .int (o_I (o_sm (fun i => o_b (0 < M 5 i ∧ (M 6 i < M 6 j ∨ (M 6 i = M 6 j ∧ (M 4 j < M 4 i ∨ (M 4 j = M 4 i ∧ i < j)))))) (i + 1)))), (3, .int (o_I (((i + 1) : Nat) : Int)))] (by rw [e]; rfl) (ih (by omega)))
             | (have e : o_sm (fun i => o_b (0 < M 5 i ∧ (M 6 i < M 6 j ∨ (M 6 i = M 6 j ∧ (M 4 j < M 4 i ∨ (M 4 j = M 4 i ∧ i < j)))))) (i + 1) = o_sm (fun i => o_b (0 < M 5 i ∧ (M 6 i < M 6 j ∨ (M 6 i = M 6 j ∧ (M 4 j < M 4 i ∨ (M 4 j = M 4 i ∧ i < j)))))) i := (by simp only [o_sm]; rw [o_b0 (fun z => c_26 z.2), Int.add_zero]); exact o_loc [(0, .ref 6), (1, .int (o_I j)), (2, .int (o_I (o_sm (fun i => o_b (0 < M 5 i ∧ (M 6 i < M 6 j ∨ (M 6 i = M 6 j ∧ (M 4 j < M 4 i ∨ (M 4 j = M 4 i ∧ i < j)))))) (i + 1)))), (3, .int (o_I (((i + 1) : Nat) : Int)))] (by rw [e]; rfl) (ih (by omega)))
             | (have e : o_sm (fun i => o_b (0 < M 5 i ∧ (M 6 i < M 6 j ∨ (M 6 i = M 6 j ∧ (M 4 j < M 4 i ∨ (M 4 j = M 4 i ∧ i < j)))))) (i + 1) = o_sm (fun i => o_b (0 < M 5 i ∧ (M 6 i < M 6 j ∨ (M 6 i = M 6 j ∧ (M 4 j < M 4 i ∨ (M 4 j = M 4 i ∧ i < j)))))) i := (by simp only [o_sm]; rw [o_b0 (fun z => c_17 z.1), Int.add_zero]); exact o_loc [(0, .ref 6), (1, .int (o_I j)), (2, .int (o_I (o_sm (fun i => o_b (0 < M 5 i ∧ (M 6 i < M 6 j ∨ (M 6 i = M 6 j ∧ (M 4 j < M 4 i ∨ (M 4 j = M 4 i ∧ i < j)))))) (i + 1)))), (3, .int (o_I (((i + 1) : Nat) : Int)))] (by rw [e]; rfl) (ih (by omega)))
        · skip
          refine o_iinc dX7_rankOf_29 rfl (by decide) ?_
          refine o_iinc dX7_rankOf_32 rfl (by decide) ?_
          refine o_goto (tgt := 4) dX7_rankOf_35 (by decide) ?_
          first
             | (have e : o_sm (fun i => o_b (0 < M 5 i ∧ (M 6 i < M 6 j ∨ (M 6 i = M 6 j ∧ (M 4 j < M 4 i ∨ (M 4 j = M 4 i ∧ i < j)))))) (i + 1) = o_sm (fun i => o_b (0 < M 5 i ∧ (M 6 i < M 6 j ∨ (M 6 i = M 6 j ∧ (M 4 j < M 4 i ∨ (M 4 j = M 4 i ∧ i < j)))))) i + 1 := (by simp only [o_sm]; rw [o_b1 ⟨c_17, c_26⟩]); exact o_loc [(0, .ref 6), (1, .int (o_I j)), (2, .int (o_I (o_sm (fun i => o_b (0 < M 5 i ∧ (M 6 i < M 6 j ∨ (M 6 i = M 6 j ∧ (M 4 j < M 4 i ∨ (M 4 j = M 4 i ∧ i < j)))))) (i + 1)))), (3, .int (o_I (((i + 1) : Nat) : Int)))] (by rw [e]; rfl) (ih (by omega)))
             | (have e : o_sm (fun i => o_b (0 < M 5 i ∧ (M 6 i < M 6 j ∨ (M 6 i = M 6 j ∧ (M 4 j < M 4 i ∨ (M 4 j = M 4 i ∧ i < j)))))) (i + 1) = o_sm (fun i => o_b (0 < M 5 i ∧ (M 6 i < M 6 j ∨ (M 6 i = M 6 j ∧ (M 4 j < M 4 i ∨ (M 4 j = M 4 i ∧ i < j)))))) i := (by simp only [o_sm]; rw [o_b0 (fun z => c_26 z.2), Int.add_zero]); exact o_loc [(0, .ref 6), (1, .int (o_I j)), (2, .int (o_I (o_sm (fun i => o_b (0 < M 5 i ∧ (M 6 i < M 6 j ∨ (M 6 i = M 6 j ∧ (M 4 j < M 4 i ∨ (M 4 j = M 4 i ∧ i < j)))))) (i + 1)))), (3, .int (o_I (((i + 1) : Nat) : Int)))] (by rw [e]; rfl) (ih (by omega)))
             | (have e : o_sm (fun i => o_b (0 < M 5 i ∧ (M 6 i < M 6 j ∨ (M 6 i = M 6 j ∧ (M 4 j < M 4 i ∨ (M 4 j = M 4 i ∧ i < j)))))) (i + 1) = o_sm (fun i => o_b (0 < M 5 i ∧ (M 6 i < M 6 j ∨ (M 6 i = M 6 j ∧ (M 4 j < M 4 i ∨ (M 4 j = M 4 i ∧ i < j)))))) i := (by simp only [o_sm]; rw [o_b0 (fun z => c_17 z.1), Int.add_zero]); exact o_loc [(0, .ref 6), (1, .int (o_I j)), (2, .int (o_I (o_sm (fun i => o_b (0 < M 5 i ∧ (M 6 i < M 6 j ∨ (M 6 i = M 6 j ∧ (M 4 j < M 4 i ∨ (M 4 j = M 4 i ∧ i < j)))))) (i + 1)))), (3, .int (o_I (((i + 1) : Nat) : Int)))] (by rw [e]; rfl) (ih (by omega))))
  refine o_iconst dX7_rankOf_0 ?_
  refine o_istore_n dX7_rankOf_1 (by decide) ?_
  refine o_iconst dX7_rankOf_2 ?_
  refine o_istore_n dX7_rankOf_3 (by decide) ?_
  exact o_loc _ rfl (key 0 (Nat.zero_le _))
theorem o_rkL_le {M : Nat → Nat → Int} (hw : o_wl M) (j : Nat) : 0 ≤ o_rkL M j ∧ o_rkL M j ≤ 8 := by
  have h := o_sm_le (f := fun i => o_b (0 < M 5 i ∧ (M 6 i < M 6 j ∨ (M 6 i = M 6 j ∧ (M 4 j < M 4 i ∨ (M 4 j = M 4 i ∧ i < j)))))) (n := (M 0 1).toNat) (m := 1) (fun i _ => by rcases o_b01 (0 < M 5 i ∧ (M 6 i < M 6 j ∨ (M 6 i = M 6 j ∧ (M 4 j < M 4 i ∨ (M 4 j = M 4 i ∧ i < j))))) with q | q <;> (show 0 ≤ o_b _ ∧ o_b _ ≤ 1) <;> rw [q] <;> omega)
  have h1 := hw.1
  have h2 := hw.2.1
  unfold o_rkL
  omega
set_option maxRecDepth 100000 in
set_option maxHeartbeats 4000000 in
/-- atRank(rank) -/
theorem ct_X7_atRank {l : Launch} (hl : l.stackTraces = false) (d : Nat) (g : Nat → Nat → Int) (M : Nat → Nat → Int) (hr : o_rl g 6 M) (hw : o_wl M) (rank : Int) (hrank : o_R rank) (r : Int) (hr9 : o_fst (fun i => 0 < M 5 i ∧ o_rkL M i = rank) (M 0 1).toNat r) : o_Ct l yX7_atRank wX7_atRank (d + 3) o_no [.ref 6, .int (o_I rank)] o_N (o_mem g) 0 0 (o_is (some (.int (o_I r))) o_N (o_mem g)) := by
  refine o_Ct.ofV hl mX7_atRank (by decide +kernel) rfl rfl rfl (Nat.le_of_ble_eq_true rfl) ?_
  have hr1 := o_rl6 hr
  have hr0 := hr.1
  obtain ⟨hw0, hw1, hw2, hw3, hw4⟩ := id hw
  obtain ⟨N, hN, hN8⟩ := o_N1 hw
  obtain ⟨hk1, hk2⟩ := id hrank
  have key := o_lp (fun i => (∀ j, j < i → ¬ (fun i => 0 < M 5 i ∧ o_rkL M i = rank) j) → o_V l mX7_atRank (d + 3) o_no (o_is (some (.int (o_I r))) o_N (o_mem g)) 2 [(0, .ref 6), (1, .int (o_I rank)), (2, .int (o_I ((i : Nat) : Int)))] [] o_N (o_mem g) 0 0) N (fun i hi ih hn => by
    refine o_iload_n dX7_atRank_2 rfl ?_
    refine o_aload_n dX7_atRank_3 rfl ?_
    refine o_gf dX7_atRank_4 fl_X7_28 rfl (by decide) rfl ?_
    refine o_icmp_ge (tgt := 35) dX7_atRank_7 (by decide) ⟨by omega, by omega⟩ ⟨by omega, by omega⟩ (fun c_7 => ?_) (fun c_7 => ?_)
    · skip
      refine o_iconst dX7_atRank_35 ?_
      refine o_ret1 dX7_atRank_36 trivial ?_
      rw [o_fst_no hr9 (fun j hj => hn j (by omega))]
      exact ⟨rfl, rfl, rfl⟩
    · skip
      refine o_aload_n dX7_atRank_10 rfl ?_
      refine o_iload_n dX7_atRank_11 rfl ?_
      refine o_cV _ (ct_isTakenN hl d g M hr hw i (by omega)) dX7_atRank_12 ml_X7_32 yw_X7_isTaken rfl (by decide) (by omega) (by decide) rfl rfl rfl (Nat.le_of_ble_eq_true rfl) ?_
      refine o_ifb_eq (tgt := 29) dX7_atRank_15 (by decide) (fun c_15 => ?_) (fun c_15 => ?_)
      · skip
        refine o_iinc dX7_atRank_29 rfl (by decide) ?_
        refine o_goto (tgt := 2) dX7_atRank_32 (by decide) ?_
        first
           | exact o_loc [(0, .ref 6), (1, .int (o_I rank)), (2, .int (o_I (((i + 1) : Nat) : Int)))] rfl (ih (by omega) (fun j hj => by rcases Nat.lt_succ_iff_lt_or_eq.mp hj with q | q; exact hn j q; rw [q]; exact fun z => c_15 z.1))
           | exact o_loc [(0, .ref 6), (1, .int (o_I rank)), (2, .int (o_I (((i + 1) : Nat) : Int)))] rfl (ih (by omega) (fun j hj => by rcases Nat.lt_succ_iff_lt_or_eq.mp hj with q | q; exact hn j q; rw [q]; exact fun z => c_24 z.2))
      · skip
        refine o_aload_n dX7_atRank_18 rfl ?_
        refine o_iload_n dX7_atRank_19 rfl ?_
        have hrk : o_sm _ (M 0 1).toNat = o_rkL M i := rfl
        refine o_cV _ (ct_X7_rankOf hl d g M hr hw i (by omega)) dX7_atRank_20 ml_X7_40 yw_X7_rankOf rfl (by decide) (by omega) (by decide) rfl rfl rfl (Nat.le_of_ble_eq_true rfl) ?_
        rw [hrk]
        have hrb := o_rkL_le hw i
        refine o_iload_n dX7_atRank_23 rfl ?_
        refine o_icmp_ne (tgt := 29) dX7_atRank_24 (by decide) ⟨by omega, by omega⟩ ⟨by omega, by omega⟩ (fun c_24 => ?_) (fun c_24 => ?_)
        · skip
          refine o_iinc dX7_atRank_29 rfl (by decide) ?_
          refine o_goto (tgt := 2) dX7_atRank_32 (by decide) ?_
          first
             | exact o_loc [(0, .ref 6), (1, .int (o_I rank)), (2, .int (o_I (((i + 1) : Nat) : Int)))] rfl (ih (by omega) (fun j hj => by rcases Nat.lt_succ_iff_lt_or_eq.mp hj with q | q; exact hn j q; rw [q]; exact fun z => c_15 z.1))
             | exact o_loc [(0, .ref 6), (1, .int (o_I rank)), (2, .int (o_I (((i + 1) : Nat) : Int)))] rfl (ih (by omega) (fun j hj => by rcases Nat.lt_succ_iff_lt_or_eq.mp hj with q | q; exact hn j q; rw [q]; exact fun z => c_24 z.2))
        · skip
          refine o_iload_n dX7_atRank_27 rfl ?_
          refine o_ret1 dX7_atRank_28 trivial ?_
          rw [o_fst_at hr9 (by omega) ⟨c_15, c_24⟩ hn]
          exact ⟨rfl, rfl, rfl⟩)
  refine o_iconst dX7_atRank_0 ?_
  refine o_istore_n dX7_atRank_1 (by decide) ?_
  exact o_loc _ rfl (key 0 (Nat.zero_le _) (fun j hj => absurd hj (Nat.not_lt_zero j)))
