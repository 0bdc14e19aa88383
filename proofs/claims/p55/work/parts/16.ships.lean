/-! the lamps' first end; the ships; the requests -/
def o_fe (M : Nat → Nat → Int) (s : Int) : Nat → Int
  | 0 => -1
  | n + 1 => if 0 < M 5 n ∧ s < M 6 n ∧ (o_fe M s n = -1 ∨ M 6 n < o_fe M s n) then M 6 n else o_fe M s n
theorem o_fe_R {M : Nat → Nat → Int} (hw : o_wl M) (s : Int) (n : Nat) (hn : (n : Int) ≤ M 0 1) : -1 ≤ o_fe M s n ∧ o_fe M s n ≤ 2000100 := by
  induction n with
  | zero => simp [o_fe]
  | succ n ih =>
    have h1 := ih (by omega)
    have h2 := (hw.2.2.2.2 n (by omega)).2.2.1
    have h3 := hw.2.2.2.1
    simp only [o_fe]
    split <;> omega
set_option maxRecDepth 100000 in
set_option maxHeartbeats 4000000 in
/-- firstEndAfter(s) -/
theorem ct_X7_firstEndAfter {l : Launch} (hl : l.stackTraces = false) (d : Nat) (g : Nat → Nat → Int) (M : Nat → Nat → Int) (hr : o_rl g 6 M) (hw : o_wl M) (s : Int) (hs : o_R s) : o_Ct l yX7_firstEndAfter wX7_firstEndAfter (d + 2) o_no [.ref 6, .int (o_I s)] o_N (o_mem g) 0 0 (o_is (some (.int (o_I (o_fe M s (M 0 1).toNat)))) o_N (o_mem g)) := by
  refine o_Ct.ofV hl mX7_firstEndAfter (by decide +kernel) rfl rfl rfl (Nat.le_of_ble_eq_true rfl) ?_
  have hr1 := o_rl6 hr
  have hr0 := hr.1
  obtain ⟨hw0, hw1, hw2, hw3, hw4⟩ := id hw
  obtain ⟨N, hN, hN8⟩ := o_N1 hw
  have key := o_lp (fun i => o_V l mX7_firstEndAfter (d + 2) o_no (o_is (some (.int (o_I (o_fe M s (M 0 1).toNat)))) o_N (o_mem g)) 4 [(0, .ref 6), (1, .int (o_I s)), (2, .int (o_I (o_fe M s i))), (3, .int (o_I ((i : Nat) : Int)))] [] o_N (o_mem g) 0 0) N (fun i hi ih => by
    refine o_iload_n dX7_firstEndAfter_4 rfl ?_
    refine o_aload_n dX7_firstEndAfter_5 rfl ?_
    refine o_gf dX7_firstEndAfter_6 fl_X7_28 rfl (by decide) rfl ?_
    refine o_icmp_ge (tgt := 58) dX7_firstEndAfter_9 (by decide) ⟨by omega, by omega⟩ ⟨by omega, by omega⟩ (fun c_9 => ?_) (fun c_9 => ?_)
    · skip
      refine o_iload_n dX7_firstEndAfter_58 rfl ?_
      refine o_ret1 dX7_firstEndAfter_59 trivial ?_
      rw [show i = (M 0 1).toNat by omega]
      exact ⟨rfl, rfl, rfl⟩
    · skip
      refine o_aload_n dX7_firstEndAfter_12 rfl ?_
      refine o_iload_n dX7_firstEndAfter_13 rfl ?_
      refine o_cV _ (ct_isTakenN hl d g M hr hw i (by omega)) dX7_firstEndAfter_14 ml_X7_32 yw_X7_isTaken rfl (by decide) (by omega) (by decide) rfl rfl rfl (Nat.le_of_ble_eq_true rfl) ?_
      refine o_ifb_eq (tgt := 52) dX7_firstEndAfter_17 (by decide) (fun c_17 => ?_) (fun c_17 => ?_)
      · skip
        refine o_iinc dX7_firstEndAfter_52 rfl (by decide) ?_
        refine o_goto (tgt := 4) dX7_firstEndAfter_55 (by decide) ?_
        first
           | (have e : o_fe M s (i + 1) = g 9 i := (by have hj := hr1 i (by omega); simp only [o_fe]; rw [if_pos ⟨c_17, by omega, by omega⟩, hj.2.2.1]); exact o_loc [(0, .ref 6), (1, .int (o_I s)), (2, .int (o_I (o_fe M s (i + 1)))), (3, .int (o_I (((i + 1) : Nat) : Int)))] (by rw [e]; rfl) (ih (by omega)))
           | (have e : o_fe M s (i + 1) = o_fe M s i := (by have hj := hr1 i (by omega); simp only [o_fe]; rw [if_neg (fun z => by obtain ⟨z1, z2, z3⟩ := z; omega)]); exact o_loc [(0, .ref 6), (1, .int (o_I s)), (2, .int (o_I (o_fe M s (i + 1)))), (3, .int (o_I (((i + 1) : Nat) : Int)))] (by rw [e]; rfl) (ih (by omega)))
      · skip
        have hj := hr1 i (by omega)
        have hj4 := hw4 i (by omega)
        have hfe := o_fe_R hw s i (by omega)
        obtain ⟨hs1, hs2⟩ := id hs
        refine o_aload_n dX7_firstEndAfter_20 rfl ?_
        refine o_gf dX7_firstEndAfter_21 fl_X7_18 rfl (by decide) rfl ?_
        refine o_iload_n dX7_firstEndAfter_24 rfl ?_
        refine o_ialdn (j := i) dX7_firstEndAfter_25 (by decide) rfl (by decide) rfl (by omega) ?_
        refine o_iload_n dX7_firstEndAfter_26 rfl ?_
        refine o_icmp_le (tgt := 52) dX7_firstEndAfter_27 (by decide) ⟨by omega, by omega⟩ ⟨by omega, by omega⟩ (fun c_27 => ?_) (fun c_27 => ?_)
        · skip
          refine o_iinc dX7_firstEndAfter_52 rfl (by decide) ?_
          refine o_goto (tgt := 4) dX7_firstEndAfter_55 (by decide) ?_
          first
             | (have e : o_fe M s (i + 1) = g 9 i := (by have hj := hr1 i (by omega); simp only [o_fe]; rw [if_pos ⟨c_17, by omega, by omega⟩, hj.2.2.1]); exact o_loc [(0, .ref 6), (1, .int (o_I s)), (2, .int (o_I (o_fe M s (i + 1)))), (3, .int (o_I (((i + 1) : Nat) : Int)))] (by rw [e]; rfl) (ih (by omega)))
             | (have e : o_fe M s (i + 1) = o_fe M s i := (by have hj := hr1 i (by omega); simp only [o_fe]; rw [if_neg (fun z => by obtain ⟨z1, z2, z3⟩ := z; omega)]); exact o_loc [(0, .ref 6), (1, .int (o_I s)), (2, .int (o_I (o_fe M s (i + 1)))), (3, .int (o_I (((i + 1) : Nat) : Int)))] (by rw [e]; rfl) (ih (by omega)))
        · skip
          refine o_iload_n dX7_firstEndAfter_30 rfl ?_
          refine o_iconst dX7_firstEndAfter_31 ?_
          refine o_icmp_eq (tgt := 45) dX7_firstEndAfter_32 (by decide) ⟨by omega, by omega⟩ ⟨by omega, by omega⟩ (fun c_32 => ?_) (fun c_32 => ?_)
          · skip
            refine o_aload_n dX7_firstEndAfter_45 rfl ?_
            refine o_gf dX7_firstEndAfter_46 fl_X7_18 rfl (by decide) rfl ?_
            refine o_iload_n dX7_firstEndAfter_49 rfl ?_
            refine o_ialdn (j := i) dX7_firstEndAfter_50 (by decide) rfl (by decide) rfl (by omega) ?_
            refine o_istore_n dX7_firstEndAfter_51 (by decide) ?_
            refine o_iinc dX7_firstEndAfter_52 rfl (by decide) ?_
            refine o_goto (tgt := 4) dX7_firstEndAfter_55 (by decide) ?_
            first
               | (have e : o_fe M s (i + 1) = g 9 i := (by have hj := hr1 i (by omega); simp only [o_fe]; rw [if_pos ⟨c_17, by omega, by omega⟩, hj.2.2.1]); exact o_loc [(0, .ref 6), (1, .int (o_I s)), (2, .int (o_I (o_fe M s (i + 1)))), (3, .int (o_I (((i + 1) : Nat) : Int)))] (by rw [e]; rfl) (ih (by omega)))
               | (have e : o_fe M s (i + 1) = o_fe M s i := (by have hj := hr1 i (by omega); simp only [o_fe]; rw [if_neg (fun z => by obtain ⟨z1, z2, z3⟩ := z; omega)]); exact o_loc [(0, .ref 6), (1, .int (o_I s)), (2, .int (o_I (o_fe M s (i + 1)))), (3, .int (o_I (((i + 1) : Nat) : Int)))] (by rw [e]; rfl) (ih (by omega)))
          · skip
            refine o_aload_n dX7_firstEndAfter_35 rfl ?_
            refine o_gf dX7_firstEndAfter_36 fl_X7_18 rfl (by decide) rfl ?_
            refine o_iload_n dX7_firstEndAfter_39 rfl ?_
            refine o_ialdn (j := i) dX7_firstEndAfter_40 (by decide) rfl (by decide) rfl (by omega) ?_
            refine o_iload_n dX7_firstEndAfter_41 rfl ?_
            refine o_icmp_ge (tgt := 52) dX7_firstEndAfter_42 (by decide) ⟨by omega, by omega⟩ ⟨by omega, by omega⟩ (fun c_42 => ?_) (fun c_42 => ?_)
            · skip
              refine o_iinc dX7_firstEndAfter_52 rfl (by decide) ?_
              refine o_goto (tgt := 4) dX7_firstEndAfter_55 (by decide) ?_
              first
                 | (have e : o_fe M s (i + 1) = g 9 i := (by have hj := hr1 i (by omega); simp only [o_fe]; rw [if_pos ⟨c_17, by omega, by omega⟩, hj.2.2.1]); exact o_loc [(0, .ref 6), (1, .int (o_I s)), (2, .int (o_I (o_fe M s (i + 1)))), (3, .int (o_I (((i + 1) : Nat) : Int)))] (by rw [e]; rfl) (ih (by omega)))
                 | (have e : o_fe M s (i + 1) = o_fe M s i := (by have hj := hr1 i (by omega); simp only [o_fe]; rw [if_neg (fun z => by obtain ⟨z1, z2, z3⟩ := z; omega)]); exact o_loc [(0, .ref 6), (1, .int (o_I s)), (2, .int (o_I (o_fe M s (i + 1)))), (3, .int (o_I (((i + 1) : Nat) : Int)))] (by rw [e]; rfl) (ih (by omega)))
            · skip
              refine o_aload_n dX7_firstEndAfter_45 rfl ?_
              refine o_gf dX7_firstEndAfter_46 fl_X7_18 rfl (by decide) rfl ?_
              refine o_iload_n dX7_firstEndAfter_49 rfl ?_
              refine o_ialdn (j := i) dX7_firstEndAfter_50 (by decide) rfl (by decide) rfl (by omega) ?_
              refine o_istore_n dX7_firstEndAfter_51 (by decide) ?_
              refine o_iinc dX7_firstEndAfter_52 rfl (by decide) ?_
              refine o_goto (tgt := 4) dX7_firstEndAfter_55 (by decide) ?_
              first
                 | (have e : o_fe M s (i + 1) = g 9 i := (by have hj := hr1 i (by omega); simp only [o_fe]; rw [if_pos ⟨c_17, by omega, by omega⟩, hj.2.2.1]); exact o_loc [(0, .ref 6), (1, .int (o_I s)), (2, .int (o_I (o_fe M s (i + 1)))), (3, .int (o_I (((i + 1) : Nat) : Int)))] (by rw [e]; rfl) (ih (by omega)))
                 | (have e : o_fe M s (i + 1) = o_fe M s i := (by have hj := hr1 i (by omega); simp only [o_fe]; rw [if_neg (fun z => by obtain ⟨z1, z2, z3⟩ := z; omega)]); exact o_loc [(0, .ref 6), (1, .int (o_I s)), (2, .int (o_I (o_fe M s (i + 1)))), (3, .int (o_I (((i + 1) : Nat) : Int)))] (by rw [e]; rfl) (ih (by omega))))
  refine o_iconst dX7_firstEndAfter_0 ?_
  refine o_istore_n dX7_firstEndAfter_1 (by decide) ?_
  refine o_iconst dX7_firstEndAfter_2 ?_
  refine o_istore_n dX7_firstEndAfter_3 (by decide) ?_
  exact o_loc _ rfl (key 0 (Nat.zero_le _))
/-- the ships, at their cells from b on (7 + 3 i: coins, fines, dark hours) -/
def o_rs (g : Nat → Nat → Int) (b : Nat) (M : Nat → Nat → Int) : Prop := g b 0 = M 0 0 ∧ ∀ i : Nat, (i : Int) < M 0 0 → g (b + 1) i = M 1 i ∧ g (b + 2) i = M 2 i ∧ g (b + 3) i = M 3 i
def o_ws (M : Nat → Nat → Int) : Prop := 0 ≤ M 0 0 ∧ M 0 0 ≤ 6 ∧ ∀ i : Nat, (i : Int) < M 0 0 → (0 ≤ M 1 i ∧ M 1 i ≤ 100) ∧ (0 ≤ M 2 i ∧ M 2 i ≤ 100) ∧ M 2 i + M 1 i ≤ 100
theorem o_rs2 {g : Nat → Nat → Int} {M : Nat → Nat → Int} (h : o_rs g 2 M) : ∀ i : Nat, (i : Int) < M 0 0 → g 3 i = M 1 i ∧ g 4 i = M 2 i ∧ g 5 i = M 3 i := h.2
theorem o_N0 {M : Nat → Nat → Int} (h : o_ws M) : ∃ N : Nat, (N : Int) = M 0 0 ∧ N ≤ 6 := ⟨(M 0 0).toNat, by have := h.1; omega, by have := h.1; have := h.2.1; omega⟩
set_option maxRecDepth 100000 in
set_option maxHeartbeats 4000000 in
/-- exists(i) -/
theorem ct_X9_exists {l : Launch} (hl : l.stackTraces = false) (d : Nat) (g : Nat → Nat → Int) (M : Nat → Nat → Int) (hr : o_rs g 2 M) (hw : o_ws M) (i : Int) (hi : o_R i) : o_Ct l yX9_exists wX9_exists (d + 1) o_no [.ref 2, .int (o_I i)] o_N (o_mem g) 0 0 (o_is (some (.int (o_I (o_b (0 ≤ i ∧ i < M 0 0))))) o_N (o_mem g)) := by
  refine o_Ct.ofV hl mX9_exists (by decide +kernel) rfl rfl rfl (Nat.le_of_ble_eq_true rfl) ?_
  have hr1 := o_rs2 hr
  have hr0 := hr.1
  obtain ⟨hw0, hw1, hw4⟩ := id hw
  obtain ⟨N, hN, hN8⟩ := o_N0 hw
  obtain ⟨hi1, hi2⟩ := hi
  refine o_iload_n dX9_exists_0 rfl ?_
  refine o_if_lt (tgt := 16) dX9_exists_1 (by decide) ⟨by omega, by omega⟩ (fun c_1 => ?_) (fun c_1 => ?_)
  · skip
    refine o_iconst dX9_exists_16 ?_
    refine o_ret1 dX9_exists_17 (by first | exact o_rb0 | exact o_rb1 | exact o_bn _) ?_
    exact o_isB (by simp [o_b]; omega)
  · skip
    refine o_iload_n dX9_exists_4 rfl ?_
    refine o_aload_n dX9_exists_5 rfl ?_
    refine o_gf dX9_exists_6 fl_X9_21 rfl (by decide) rfl ?_
    refine o_icmp_ge (tgt := 16) dX9_exists_9 (by decide) ⟨by omega, by omega⟩ ⟨by omega, by omega⟩ (fun c_9 => ?_) (fun c_9 => ?_)
    · skip
      refine o_iconst dX9_exists_16 ?_
      refine o_ret1 dX9_exists_17 (by first | exact o_rb0 | exact o_rb1 | exact o_bn _) ?_
      exact o_isB (by simp [o_b]; omega)
    · skip
      refine o_iconst dX9_exists_12 ?_
      refine o_goto (tgt := 17) dX9_exists_13 (by decide) ?_
      refine o_ret1 dX9_exists_17 (by first | exact o_rb0 | exact o_rb1 | exact o_bn _) ?_
      exact o_isB (by simp [o_b]; omega)
set_option maxRecDepth 100000 in
set_option maxHeartbeats 4000000 in
/-- canPay(i, s) -/
theorem ct_X9_canPay {l : Launch} (hl : l.stackTraces = false) (d : Nat) (g : Nat → Nat → Int) (M : Nat → Nat → Int) (hr : o_rs g 2 M) (hw : o_ws M) (i s : Int) (hi : o_R i) (hs : o_R s) : o_Ct l yX9_canPay wX9_canPay (d + 1) o_no [.ref 2, .int (o_I i), .int (o_I s)] o_N (o_mem g) 0 0 (o_is (some (.int (o_I (o_b (0 ≤ i ∧ i < M 0 0 ∧ s ≤ M 1 (i.toNat)))))) o_N (o_mem g)) := by
  refine o_Ct.ofV hl mX9_canPay (by decide +kernel) rfl rfl rfl (Nat.le_of_ble_eq_true rfl) ?_
  have hr1 := o_rs2 hr
  have hr0 := hr.1
  obtain ⟨hw0, hw1, hw4⟩ := id hw
  obtain ⟨N, hN, hN8⟩ := o_N0 hw
  obtain ⟨hi1, hi2⟩ := hi
  obtain ⟨hs1, hs2⟩ := hs
  refine o_iload_n dX9_canPay_0 rfl ?_
  refine o_if_lt (tgt := 26) dX9_canPay_1 (by decide) ⟨by omega, by omega⟩ (fun c_1 => ?_) (fun c_1 => ?_)
  · skip
    refine o_iconst dX9_canPay_26 ?_
    refine o_ret1 dX9_canPay_27 (by first | exact o_rb0 | exact o_rb1 | exact o_bn _) ?_
    exact o_isB (by simp [o_b]; omega)
  · skip
    refine o_iload_n dX9_canPay_4 rfl ?_
    refine o_aload_n dX9_canPay_5 rfl ?_
    refine o_gf dX9_canPay_6 fl_X9_21 rfl (by decide) rfl ?_
    refine o_icmp_ge (tgt := 26) dX9_canPay_9 (by decide) ⟨by omega, by omega⟩ ⟨by omega, by omega⟩ (fun c_9 => ?_) (fun c_9 => ?_)
    · skip
      refine o_iconst dX9_canPay_26 ?_
      refine o_ret1 dX9_canPay_27 (by first | exact o_rb0 | exact o_rb1 | exact o_bn _) ?_
      exact o_isB (by simp [o_b]; omega)
    · skip
      obtain ⟨j, rfl⟩ : ∃ j : Nat, (j : Int) = i := ⟨i.toNat, by omega⟩
      have hj := hr1 j (by omega)
      have hj4 := hw4 j (by omega)
      refine o_aload_n dX9_canPay_12 rfl ?_
      refine o_gf dX9_canPay_13 fl_X9_9 rfl (by decide) rfl ?_
      refine o_iload_n dX9_canPay_16 rfl ?_
      refine o_ialdn (j := j) dX9_canPay_17 (by decide) rfl (by decide) rfl (by omega) ?_
      refine o_iload_n dX9_canPay_18 rfl ?_
      refine o_icmp_lt (tgt := 26) dX9_canPay_19 (by decide) ⟨by omega, by omega⟩ ⟨by omega, by omega⟩ (fun c_19 => ?_) (fun c_19 => ?_)
      · skip
        refine o_iconst dX9_canPay_26 ?_
        refine o_ret1 dX9_canPay_27 (by first | exact o_rb0 | exact o_rb1 | exact o_bn _) ?_
        exact o_isB (by simp [o_b]; omega)
      · skip
        refine o_iconst dX9_canPay_22 ?_
        refine o_goto (tgt := 27) dX9_canPay_23 (by decide) ?_
        refine o_ret1 dX9_canPay_27 (by first | exact o_rb0 | exact o_rb1 | exact o_bn _) ?_
        exact o_isB (by simp [o_b]; omega)
set_option maxRecDepth 100000 in
set_option maxHeartbeats 4000000 in
/-- sumOfCoins() -/
theorem ct_X9_sumOfCoins {l : Launch} (hl : l.stackTraces = false) (d : Nat) (g : Nat → Nat → Int) (M : Nat → Nat → Int) (hr : o_rs g 2 M) (hw : o_ws M) : o_Ct l yX9_sumOfCoins wX9_sumOfCoins (d + 1) o_no [.ref 2] o_N (o_mem g) 0 0 (o_is (some (.int (o_I (o_sm (fun i => M 1 i) (M 0 0).toNat)))) o_N (o_mem g)) := by
  refine o_Ct.ofV hl mX9_sumOfCoins (by decide +kernel) rfl rfl rfl (Nat.le_of_ble_eq_true rfl) ?_
  have hr1 := o_rs2 hr
  have hr0 := hr.1
  obtain ⟨hw0, hw1, hw4⟩ := id hw
  obtain ⟨N, hN, hN8⟩ := o_N0 hw
  have key := o_lp (fun i => o_V l mX9_sumOfCoins (d + 1) o_no (o_is (some (.int (o_I (o_sm (fun i => M 1 i) (M 0 0).toNat)))) o_N (o_mem g)) 4 [(0, .ref 2), (1, .int (o_I (o_sm (fun i => M 1 i) i))), (2, .int (o_I ((i : Nat) : Int)))] [] o_N (o_mem g) 0 0) N (fun i hi ih => by
    refine o_iload_n dX9_sumOfCoins_4 rfl ?_
    refine o_aload_n dX9_sumOfCoins_5 rfl ?_
    refine o_gf dX9_sumOfCoins_6 fl_X9_21 rfl (by decide) rfl ?_
    refine o_icmp_ge (tgt := 27) dX9_sumOfCoins_9 (by decide) ⟨by omega, by omega⟩ ⟨by omega, by omega⟩ (fun c_9 => ?_) (fun c_9 => ?_)
    · skip
      refine o_iload_n dX9_sumOfCoins_27 rfl ?_
      refine o_ret1 dX9_sumOfCoins_28 trivial ?_
      rw [show i = (M 0 0).toNat by omega]
      exact ⟨rfl, rfl, rfl⟩
    · skip
      refine o_iload_n dX9_sumOfCoins_12 rfl ?_
      refine o_aload_n dX9_sumOfCoins_13 rfl ?_
      refine o_gf dX9_sumOfCoins_14 fl_X9_9 rfl (by decide) rfl ?_
      refine o_iload_n dX9_sumOfCoins_17 rfl ?_
      refine o_ialdn (j := i) dX9_sumOfCoins_18 (by decide) rfl (by decide) rfl (by omega) ?_
      refine o_iadd dX9_sumOfCoins_19 ?_
      refine o_istore_n dX9_sumOfCoins_20 (by decide) ?_
      refine o_iinc dX9_sumOfCoins_21 rfl (by decide) ?_
      refine o_goto (tgt := 4) dX9_sumOfCoins_24 (by decide) ?_
      first
         | (have e : o_sm (fun i => M 1 i) (i + 1) = o_sm (fun i => M 1 i) i + g 3 i := (by simp only [o_sm]; rw [(hr1 i (by omega)).1]); exact o_loc [(0, .ref 2), (1, .int (o_I (o_sm (fun i => M 1 i) (i + 1)))), (2, .int (o_I (((i + 1) : Nat) : Int)))] (by rw [e]; rfl) (ih (by omega))))
  refine o_iconst dX9_sumOfCoins_0 ?_
  refine o_istore_n dX9_sumOfCoins_1 (by decide) ?_
  refine o_iconst dX9_sumOfCoins_2 ?_
  refine o_istore_n dX9_sumOfCoins_3 (by decide) ?_
  exact o_loc _ rfl (key 0 (Nat.zero_le _))
set_option maxRecDepth 100000 in
set_option maxHeartbeats 4000000 in
/-- isBefore(i, j) -/
theorem ct_X9_isBefore {l : Launch} (hl : l.stackTraces = false) (d : Nat) (g : Nat → Nat → Int) (M : Nat → Nat → Int) (hr : o_rs g 2 M) (hw : o_ws M) (i j : Nat) (hi : (i : Int) < M 0 0) (hj : (j : Int) < M 0 0) : o_Ct l yX9_isBefore wX9_isBefore (d + 1) o_no [.ref 2, .int (o_I i), .int (o_I j)] o_N (o_mem g) 0 0 (o_is (some (.int (o_I (o_b (M 2 j < M 2 i ∨ (M 2 j = M 2 i ∧ (M 1 i < M 1 j ∨ (M 1 i = M 1 j ∧ i < j)))))))) o_N (o_mem g)) := by
  refine o_Ct.ofV hl mX9_isBefore (by decide +kernel) rfl rfl rfl (Nat.le_of_ble_eq_true rfl) ?_
  have hr1 := o_rs2 hr
  have hr0 := hr.1
  obtain ⟨hw0, hw1, hw4⟩ := id hw
  obtain ⟨N, hN, hN8⟩ := o_N0 hw
  have h1 := hr1 i hi
  have h2 := hr1 j hj
  have h3 := hw4 i hi
  have h4 := hw4 j hj
  refine o_aload_n dX9_isBefore_0 rfl ?_
  refine o_gf dX9_isBefore_1 fl_X9_15 rfl (by decide) rfl ?_
  refine o_iload_n dX9_isBefore_4 rfl ?_
  refine o_ialdn (j := i) dX9_isBefore_5 (by decide) rfl (by decide) rfl (by omega) ?_
  refine o_aload_n dX9_isBefore_6 rfl ?_
  refine o_gf dX9_isBefore_7 fl_X9_15 rfl (by decide) rfl ?_
  refine o_iload_n dX9_isBefore_10 rfl ?_
  refine o_ialdn (j := j) dX9_isBefore_11 (by decide) rfl (by decide) rfl (by omega) ?_
  refine o_icmp_eq (tgt := 36) dX9_isBefore_12 (by decide) ⟨by omega, by omega⟩ ⟨by omega, by omega⟩ (fun c_12 => ?_) (fun c_12 => ?_)
  · skip
    refine o_aload_n dX9_isBefore_36 rfl ?_
    refine o_gf dX9_isBefore_37 fl_X9_9 rfl (by decide) rfl ?_
    refine o_iload_n dX9_isBefore_40 rfl ?_
    refine o_ialdn (j := i) dX9_isBefore_41 (by decide) rfl (by decide) rfl (by omega) ?_
    refine o_aload_n dX9_isBefore_42 rfl ?_
    refine o_gf dX9_isBefore_43 fl_X9_9 rfl (by decide) rfl ?_
    refine o_iload_n dX9_isBefore_46 rfl ?_
    refine o_ialdn (j := j) dX9_isBefore_47 (by decide) rfl (by decide) rfl (by omega) ?_
    refine o_icmp_eq (tgt := 72) dX9_isBefore_48 (by decide) ⟨by omega, by omega⟩ ⟨by omega, by omega⟩ (fun c_48 => ?_) (fun c_48 => ?_)
    · skip
      refine o_iload_n dX9_isBefore_72 rfl ?_
      refine o_iload_n dX9_isBefore_73 rfl ?_
      refine o_icmp_ge (tgt := 81) dX9_isBefore_74 (by decide) ⟨by omega, by omega⟩ ⟨by omega, by omega⟩ (fun c_74 => ?_) (fun c_74 => ?_)
      · skip
        refine o_iconst dX9_isBefore_81 ?_
        refine o_ret1 dX9_isBefore_82 (by first | exact o_rb0 | exact o_rb1 | exact o_bn _) ?_
        exact o_isB (by simp [o_b]; omega)
      · skip
        refine o_iconst dX9_isBefore_77 ?_
        refine o_goto (tgt := 82) dX9_isBefore_78 (by decide) ?_
        refine o_ret1 dX9_isBefore_82 (by first | exact o_rb0 | exact o_rb1 | exact o_bn _) ?_
        exact o_isB (by simp [o_b]; omega)
    · skip
      refine o_aload_n dX9_isBefore_51 rfl ?_
      refine o_gf dX9_isBefore_52 fl_X9_9 rfl (by decide) rfl ?_
      refine o_iload_n dX9_isBefore_55 rfl ?_
      refine o_ialdn (j := i) dX9_isBefore_56 (by decide) rfl (by decide) rfl (by omega) ?_
      refine o_aload_n dX9_isBefore_57 rfl ?_
      refine o_gf dX9_isBefore_58 fl_X9_9 rfl (by decide) rfl ?_
      refine o_iload_n dX9_isBefore_61 rfl ?_
      refine o_ialdn (j := j) dX9_isBefore_62 (by decide) rfl (by decide) rfl (by omega) ?_
      refine o_icmp_ge (tgt := 70) dX9_isBefore_63 (by decide) ⟨by omega, by omega⟩ ⟨by omega, by omega⟩ (fun c_63 => ?_) (fun c_63 => ?_)
      · skip
        refine o_iconst dX9_isBefore_70 ?_
        refine o_ret1 dX9_isBefore_71 (by first | exact o_rb0 | exact o_rb1 | exact o_bn _) ?_
        exact o_isB (by simp [o_b]; omega)
      · skip
        refine o_iconst dX9_isBefore_66 ?_
        refine o_goto (tgt := 71) dX9_isBefore_67 (by decide) ?_
        refine o_ret1 dX9_isBefore_71 (by first | exact o_rb0 | exact o_rb1 | exact o_bn _) ?_
        exact o_isB (by simp [o_b]; omega)
  · skip
    refine o_aload_n dX9_isBefore_15 rfl ?_
    refine o_gf dX9_isBefore_16 fl_X9_15 rfl (by decide) rfl ?_
    refine o_iload_n dX9_isBefore_19 rfl ?_
    refine o_ialdn (j := i) dX9_isBefore_20 (by decide) rfl (by decide) rfl (by omega) ?_
    refine o_aload_n dX9_isBefore_21 rfl ?_
    refine o_gf dX9_isBefore_22 fl_X9_15 rfl (by decide) rfl ?_
    refine o_iload_n dX9_isBefore_25 rfl ?_
    refine o_ialdn (j := j) dX9_isBefore_26 (by decide) rfl (by decide) rfl (by omega) ?_
    refine o_icmp_le (tgt := 34) dX9_isBefore_27 (by decide) ⟨by omega, by omega⟩ ⟨by omega, by omega⟩ (fun c_27 => ?_) (fun c_27 => ?_)
    · skip
      refine o_iconst dX9_isBefore_34 ?_
      refine o_ret1 dX9_isBefore_35 (by first | exact o_rb0 | exact o_rb1 | exact o_bn _) ?_
      exact o_isB (by simp [o_b]; omega)
    · skip
      refine o_iconst dX9_isBefore_30 ?_
      refine o_goto (tgt := 35) dX9_isBefore_31 (by decide) ?_
      refine o_ret1 dX9_isBefore_35 (by first | exact o_rb0 | exact o_rb1 | exact o_bn _) ?_
      exact o_isB (by simp [o_b]; omega)
def o_rkS (M : Nat → Nat → Int) (j : Nat) : Int := o_sm (fun i => o_b (M 2 j < M 2 i ∨ (M 2 j = M 2 i ∧ (M 1 i < M 1 j ∨ (M 1 i = M 1 j ∧ i < j))))) (M 0 0).toNat
set_option maxRecDepth 100000 in
set_option maxHeartbeats 4000000 in
/-- rankOf(j) -/
theorem ct_X9_rankOf {l : Launch} (hl : l.stackTraces = false) (d : Nat) (g : Nat → Nat → Int) (M : Nat → Nat → Int) (hr : o_rs g 2 M) (hw : o_ws M) (j : Nat) (hj : (j : Int) < M 0 0) : o_Ct l yX9_rankOf wX9_rankOf (d + 2) o_no [.ref 2, .int (o_I j)] o_N (o_mem g) 0 0 (o_is (some (.int (o_I (o_sm (fun i => o_b (M 2 j < M 2 i ∨ (M 2 j = M 2 i ∧ (M 1 i < M 1 j ∨ (M 1 i = M 1 j ∧ i < j))))) (M 0 0).toNat)))) o_N (o_mem g)) := by
  refine o_Ct.ofV hl mX9_rankOf (by decide +kernel) rfl rfl rfl (Nat.le_of_ble_eq_true rfl) ?_
  have hr1 := o_rs2 hr
  have hr0 := hr.1
  obtain ⟨hw0, hw1, hw4⟩ := id hw
  obtain ⟨N, hN, hN8⟩ := o_N0 hw
  have key := o_lp (fun i => o_V l mX9_rankOf (d + 2) o_no (o_is (some (.int (o_I (o_sm (fun i => o_b (M 2 j < M 2 i ∨ (M 2 j = M 2 i ∧ (M 1 i < M 1 j ∨ (M 1 i = M 1 j ∧ i < j))))) (M 0 0).toNat)))) o_N (o_mem g)) 4 [(0, .ref 2), (1, .int (o_I j)), (2, .int (o_I (o_sm (fun i => o_b (M 2 j < M 2 i ∨ (M 2 j = M 2 i ∧ (M 1 i < M 1 j ∨ (M 1 i = M 1 j ∧ i < j))))) i))), (3, .int (o_I ((i : Nat) : Int)))] [] o_N (o_mem g) 0 0) N (fun i hi ih => by
    refine o_iload_n dX9_rankOf_4 rfl ?_
    refine o_aload_n dX9_rankOf_5 rfl ?_
    refine o_gf dX9_rankOf_6 fl_X9_21 rfl (by decide) rfl ?_
    refine o_icmp_ge (tgt := 30) dX9_rankOf_9 (by decide) ⟨by omega, by omega⟩ ⟨by omega, by omega⟩ (fun c_9 => ?_) (fun c_9 => ?_)
    · skip
      refine o_iload_n dX9_rankOf_30 rfl ?_
      refine o_ret1 dX9_rankOf_31 trivial ?_
      rw [show i = (M 0 0).toNat by omega]
      exact ⟨rfl, rfl, rfl⟩
    · skip
      refine o_aload_n dX9_rankOf_12 rfl ?_
      refine o_iload_n dX9_rankOf_13 rfl ?_
      refine o_iload_n dX9_rankOf_14 rfl ?_
      refine o_cV _ (ct_X9_isBefore hl d g M hr hw i j (by omega) hj) dX9_rankOf_15 ml_X9_29 yw_X9_isBefore rfl (by decide) (by omega) (by decide) rfl rfl rfl (Nat.le_of_ble_eq_true rfl) ?_
      refine o_ifb_eq (tgt := 24) dX9_rankOf_18 (by decide) (fun c_18 => ?_) (fun c_18 => ?_)
      · skip
        refine o_iinc dX9_rankOf_24 rfl (by decide) ?_
        refine o_goto (tgt := 4) dX9_rankOf_27 (by decide) ?_
        first
           | (have e : o_sm (fun i => o_b (M 2 j < M 2 i ∨ (M 2 j = M 2 i ∧ (M 1 i < M 1 j ∨ (M 1 i = M 1 j ∧ i < j))))) (i + 1) = o_sm (fun i => o_b (M 2 j < M 2 i ∨ (M 2 j = M 2 i ∧ (M 1 i < M 1 j ∨ (M 1 i = M 1 j ∧ i < j))))) i + 1 := (by simp only [o_sm]; rw [o_b1 c_18]); exact o_loc [(0, .ref 2), (1, .int (o_I j)), (2, .int (o_I (o_sm (fun i => o_b (M 2 j < M 2 i ∨ (M 2 j = M 2 i ∧ (M 1 i < M 1 j ∨ (M 1 i = M 1 j ∧ i < j))))) (i + 1)))), (3, .int (o_I (((i + 1) : Nat) : Int)))] (by rw [e]; rfl) (ih (by omega)))
           | (have e : o_sm (fun i => o_b (M 2 j < M 2 i ∨ (M 2 j = M 2 i ∧ (M 1 i < M 1 j ∨ (M 1 i = M 1 j ∧ i < j))))) (i + 1) = o_sm (fun i => o_b (M 2 j < M 2 i ∨ (M 2 j = M 2 i ∧ (M 1 i < M 1 j ∨ (M 1 i = M 1 j ∧ i < j))))) i := (by simp only [o_sm]; rw [o_b0 c_18, Int.add_zero]); exact o_loc [(0, .ref 2), (1, .int (o_I j)), (2, .int (o_I (o_sm (fun i => o_b (M 2 j < M 2 i ∨ (M 2 j = M 2 i ∧ (M 1 i < M 1 j ∨ (M 1 i = M 1 j ∧ i < j))))) (i + 1)))), (3, .int (o_I (((i + 1) : Nat) : Int)))] (by rw [e]; rfl) (ih (by omega)))
      · skip
        refine o_iinc dX9_rankOf_21 rfl (by decide) ?_
        refine o_iinc dX9_rankOf_24 rfl (by decide) ?_
        refine o_goto (tgt := 4) dX9_rankOf_27 (by decide) ?_
        first
           | (have e : o_sm (fun i => o_b (M 2 j < M 2 i ∨ (M 2 j = M 2 i ∧ (M 1 i < M 1 j ∨ (M 1 i = M 1 j ∧ i < j))))) (i + 1) = o_sm (fun i => o_b (M 2 j < M 2 i ∨ (M 2 j = M 2 i ∧ (M 1 i < M 1 j ∨ (M 1 i = M 1 j ∧ i < j))))) i + 1 := (by simp only [o_sm]; rw [o_b1 c_18]); exact o_loc [(0, .ref 2), (1, .int (o_I j)), (2, .int (o_I (o_sm (fun i => o_b (M 2 j < M 2 i ∨ (M 2 j = M 2 i ∧ (M 1 i < M 1 j ∨ (M 1 i = M 1 j ∧ i < j))))) (i + 1)))), (3, .int (o_I (((i + 1) : Nat) : Int)))] (by rw [e]; rfl) (ih (by omega)))
           | (have e : o_sm (fun i => o_b (M 2 j < M 2 i ∨ (M 2 j = M 2 i ∧ (M 1 i < M 1 j ∨ (M 1 i = M 1 j ∧ i < j))))) (i + 1) = o_sm (fun i => o_b (M 2 j < M 2 i ∨ (M 2 j = M 2 i ∧ (M 1 i < M 1 j ∨ (M 1 i = M 1 j ∧ i < j))))) i := (by simp only [o_sm]; rw [o_b0 c_18, Int.add_zero]); exact o_loc [(0, .ref 2), (1, .int (o_I j)), (2, .int (o_I (o_sm (fun i => o_b (M 2 j < M 2 i ∨ (M 2 j = M 2 i ∧ (M 1 i < M 1 j ∨ (M 1 i = M 1 j ∧ i < j))))) (i + 1)))), (3, .int (o_I (((i + 1) : Nat) : Int)))] (by rw [e]; rfl) (ih (by omega))))
  refine o_iconst dX9_rankOf_0 ?_
  refine o_istore_n dX9_rankOf_1 (by decide) ?_
  refine o_iconst dX9_rankOf_2 ?_
  refine o_istore_n dX9_rankOf_3 (by decide) ?_
  exact o_loc _ rfl (key 0 (Nat.zero_le _))
theorem o_rkS_le {M : Nat → Nat → Int} (hw : o_ws M) (j : Nat) : 0 ≤ o_rkS M j ∧ o_rkS M j ≤ 6 := by
  have h := o_sm_le (f := (fun i => o_b (M 2 j < M 2 i ∨ (M 2 j = M 2 i ∧ (M 1 i < M 1 j ∨ (M 1 i = M 1 j ∧ i < j)))))) (n := (M 0 0).toNat) (m := 1) (fun i _ => by rcases o_b01 (M 2 j < M 2 i ∨ (M 2 j = M 2 i ∧ (M 1 i < M 1 j ∨ (M 1 i = M 1 j ∧ i < j)))) with q | q <;> (show 0 ≤ o_b _ ∧ o_b _ ≤ 1) <;> rw [q] <;> omega)
  have h1 := hw.1
  have h2 := hw.2.1
  unfold o_rkS
  omega
set_option maxRecDepth 100000 in
set_option maxHeartbeats 4000000 in
/-- atRank(rank) -/
theorem ct_X9_atRank {l : Launch} (hl : l.stackTraces = false) (d : Nat) (g : Nat → Nat → Int) (M : Nat → Nat → Int) (hr : o_rs g 2 M) (hw : o_ws M) (rank : Int) (hrank : o_R rank) (r : Int) (hr9 : o_fst (fun i => o_rkS M i = rank) (M 0 0).toNat r) : o_Ct l yX9_atRank wX9_atRank (d + 3) o_no [.ref 2, .int (o_I rank)] o_N (o_mem g) 0 0 (o_is (some (.int (o_I r))) o_N (o_mem g)) := by
  refine o_Ct.ofV hl mX9_atRank (by decide +kernel) rfl rfl rfl (Nat.le_of_ble_eq_true rfl) ?_
  have hr1 := o_rs2 hr
  have hr0 := hr.1
  obtain ⟨hw0, hw1, hw4⟩ := id hw
  obtain ⟨N, hN, hN8⟩ := o_N0 hw
  obtain ⟨hk1, hk2⟩ := id hrank
  have key := o_lp (fun i => (∀ j, j < i → ¬ (fun i => o_rkS M i = rank) j) → o_V l mX9_atRank (d + 3) o_no (o_is (some (.int (o_I r))) o_N (o_mem g)) 2 [(0, .ref 2), (1, .int (o_I rank)), (2, .int (o_I ((i : Nat) : Int)))] [] o_N (o_mem g) 0 0) N (fun i hi ih hn => by
    refine o_iload_n dX9_atRank_2 rfl ?_
    refine o_aload_n dX9_atRank_3 rfl ?_
    refine o_gf dX9_atRank_4 fl_X9_21 rfl (by decide) rfl ?_
    refine o_icmp_ge (tgt := 27) dX9_atRank_7 (by decide) ⟨by omega, by omega⟩ ⟨by omega, by omega⟩ (fun c_7 => ?_) (fun c_7 => ?_)
    · skip
      refine o_iconst dX9_atRank_27 ?_
      refine o_ret1 dX9_atRank_28 trivial ?_
      rw [o_fst_no hr9 (fun j hj => hn j (by omega))]
      exact ⟨rfl, rfl, rfl⟩
    · skip
      refine o_aload_n dX9_atRank_10 rfl ?_
      refine o_iload_n dX9_atRank_11 rfl ?_
      have hrk : o_sm _ (M 0 0).toNat = o_rkS M i := rfl
      refine o_cV _ (ct_X9_rankOf hl d g M hr hw i (by omega)) dX9_atRank_12 ml_X9_25 yw_X9_rankOf rfl (by decide) (by omega) (by decide) rfl rfl rfl (Nat.le_of_ble_eq_true rfl) ?_
      rw [hrk]
      have hrb := o_rkS_le hw i
      refine o_iload_n dX9_atRank_15 rfl ?_
      refine o_icmp_ne (tgt := 21) dX9_atRank_16 (by decide) ⟨by omega, by omega⟩ ⟨by omega, by omega⟩ (fun c_16 => ?_) (fun c_16 => ?_)
      · skip
        refine o_iinc dX9_atRank_21 rfl (by decide) ?_
        refine o_goto (tgt := 2) dX9_atRank_24 (by decide) ?_
        first
           | exact o_loc [(0, .ref 2), (1, .int (o_I rank)), (2, .int (o_I (((i + 1) : Nat) : Int)))] rfl (ih (by omega) (fun j hj => by rcases Nat.lt_succ_iff_lt_or_eq.mp hj with q | q; exact hn j q; rw [q]; exact c_16))
      · skip
        refine o_iload_n dX9_atRank_19 rfl ?_
        refine o_ret1 dX9_atRank_20 trivial ?_
        rw [o_fst_at hr9 (by omega) (c_16) hn]
        exact ⟨rfl, rfl, rfl⟩)
  refine o_iconst dX9_atRank_0 ?_
  refine o_istore_n dX9_atRank_1 (by decide) ?_
  exact o_loc _ rfl (key 0 (Nat.zero_le _) (fun j hj => absurd hj (Nat.not_lt_zero j)))
/-- the requests, at their cells from b on (65 + 2 k: lamp, hours) -/
def o_rq (g : Nat → Nat → Int) (b : Nat) (M : Nat → Nat → Int) : Prop := g b 0 = M 0 6 ∧ ∀ k : Nat, (k : Int) < M 0 6 → g (b + 1) k = M 9 k ∧ g (b + 2) k = M 10 k
def o_wq (M : Nat → Nat → Int) : Prop := 0 ≤ M 0 6 ∧ M 0 6 ≤ 8 ∧ ∀ k : Nat, (k : Int) < M 0 6 → (0 ≤ M 9 k ∧ M 9 k < M 0 1) ∧ (1 ≤ M 10 k ∧ M 10 k ≤ 24)
theorem o_rq12 {g : Nat → Nat → Int} {M : Nat → Nat → Int} (h : o_rq g 12 M) : ∀ k : Nat, (k : Int) < M 0 6 → g 13 k = M 9 k ∧ g 14 k = M 10 k := h.2
theorem o_N6 {M : Nat → Nat → Int} (h : o_wq M) : ∃ N : Nat, (N : Int) = M 0 6 ∧ N ≤ 8 := ⟨(M 0 6).toNat, by have := h.1; omega, by have := h.1; have := h.2.1; omega⟩
set_option maxRecDepth 100000 in
set_option maxHeartbeats 4000000 in
/-- positionOf(x) -/
theorem ct_X8_positionOf {l : Launch} (hl : l.stackTraces = false) (d : Nat) (g : Nat → Nat → Int) (M : Nat → Nat → Int) (hr : o_rq g 12 M) (hw : o_wq M) (hM : M 0 1 ≤ 8) (x : Int) (hx : o_R x) (r : Int) (hr9 : o_fst (fun i => M 9 i = x) (M 0 6).toNat r) : o_Ct l yX8_positionOf wX8_positionOf (d + 1) o_no [.ref 12, .int (o_I x)] o_N (o_mem g) 0 0 (o_is (some (.int (o_I r))) o_N (o_mem g)) := by
  refine o_Ct.ofV hl mX8_positionOf (by decide +kernel) rfl rfl rfl (Nat.le_of_ble_eq_true rfl) ?_
  have hr1 := o_rq12 hr
  have hr0 := hr.1
  obtain ⟨hw0, hw1, hw4⟩ := id hw
  obtain ⟨N, hN, hN8⟩ := o_N6 hw
  obtain ⟨hk1, hk2⟩ := id hx
  have key := o_lp (fun i => (∀ j, j < i → ¬ (fun i => M 9 i = x) j) → o_V l mX8_positionOf (d + 1) o_no (o_is (some (.int (o_I r))) o_N (o_mem g)) 2 [(0, .ref 12), (1, .int (o_I x)), (2, .int (o_I ((i : Nat) : Int)))] [] o_N (o_mem g) 0 0) N (fun i hi ih hn => by
    refine o_iload_n dX8_positionOf_2 rfl ?_
    refine o_aload_n dX8_positionOf_3 rfl ?_
    refine o_gf dX8_positionOf_4 fl_X8_18 rfl (by decide) rfl ?_
    refine o_icmp_ge (tgt := 28) dX8_positionOf_7 (by decide) ⟨by omega, by omega⟩ ⟨by omega, by omega⟩ (fun c_7 => ?_) (fun c_7 => ?_)
    · skip
      refine o_iconst dX8_positionOf_28 ?_
      refine o_ret1 dX8_positionOf_29 trivial ?_
      rw [o_fst_no hr9 (fun j hj => hn j (by omega))]
      exact ⟨rfl, rfl, rfl⟩
    · skip
      have hj9 := hr1 i (by omega)
      have hj4 := hw4 i (by omega)
      refine o_aload_n dX8_positionOf_10 rfl ?_
      refine o_gf dX8_positionOf_11 fl_X8_9 rfl (by decide) rfl ?_
      refine o_iload_n dX8_positionOf_14 rfl ?_
      refine o_ialdn (j := i) dX8_positionOf_15 (by decide) rfl (by decide) rfl (by omega) ?_
      refine o_iload_n dX8_positionOf_16 rfl ?_
      refine o_icmp_ne (tgt := 22) dX8_positionOf_17 (by decide) ⟨by omega, by omega⟩ ⟨by omega, by omega⟩ (fun c_17 => ?_) (fun c_17 => ?_)
      · skip
        refine o_iinc dX8_positionOf_22 rfl (by decide) ?_
        refine o_goto (tgt := 2) dX8_positionOf_25 (by decide) ?_
        first
           | exact o_loc [(0, .ref 12), (1, .int (o_I x)), (2, .int (o_I (((i + 1) : Nat) : Int)))] rfl (ih (by omega) (fun j hj => by rcases Nat.lt_succ_iff_lt_or_eq.mp hj with q | q; exact hn j q; rw [q]; exact (fun z => c_17 (by rw [hj9.1]; exact z))))
      · skip
        refine o_iload_n dX8_positionOf_20 rfl ?_
        refine o_ret1 dX8_positionOf_21 trivial ?_
        rw [o_fst_at hr9 (by omega) (by rw [← hj9.1]; exact c_17) hn]
        exact ⟨rfl, rfl, rfl⟩)
  refine o_iconst dX8_positionOf_0 ?_
  refine o_istore_n dX8_positionOf_1 (by decide) ?_
  exact o_loc _ rfl (key 0 (Nat.zero_le _) (fun j hj => absurd hj (Nat.not_lt_zero j)))
