/-! the table: the most lamps for each sum -/
def t_up (T : Nat → Int) (v : Nat) : Nat → Int := fun s => if v ≤ s ∧ T (s - v) ≠ -1 then max (T s) (T (s - v) + 1) else T s
def t_0 : Nat → Int := fun s => if s = 0 then 0 else -1
def t_tb (M : Nat → Nat → Int) : Nat → (Nat → Int)
  | 0 => t_0
  | n + 1 => if 0 < M 5 n then t_up (t_tb M n) (M 4 n).toNat else t_tb M n
def t_max (T : Nat → Int) : Nat → Int
  | 0 => 0
  | n + 1 => max (t_max T n) (T n)
def o_tb (g : Nat → Nat → Int) (T : Nat → Int) : Prop := ∀ s, s < 25 → g 158 s = T s
theorem t_tb_R (M : Nat → Nat → Int) (n : Nat) : ∀ s, -1 ≤ t_tb M n s ∧ t_tb M n s ≤ n := by
  induction n with
  | zero => intro s; show -1 ≤ t_0 s ∧ t_0 s ≤ 0; unfold t_0; split <;> omega
  | succ n ih =>
    intro s
    have t := ih s
    simp only [t_tb]
    by_cases q : 0 < M 5 n
    · rw [if_pos q]
      have u := ih (s - (M 4 n).toNat)
      unfold t_up
      split <;> omega
    · rw [if_neg q]; omega
theorem t_max_R {T : Nat → Int} {m : Int} (hm : 0 ≤ m) (h : ∀ s, T s ≤ m) (n : Nat) : 0 ≤ t_max T n ∧ t_max T n ≤ m := by
  induction n with
  | zero => show (0 : Int) ≤ 0 ∧ (0 : Int) ≤ m; omega
  | succ n ih => have := h n; simp only [t_max]; omega
set_option maxRecDepth 100000 in
set_option maxHeartbeats 4000000 in
/-- clearTable() -/
theorem ct_X4_clearTable {l : Launch} (hl : l.stackTraces = false) (d : Nat) (g : Nat → Nat → Int) : o_Ct l yX4_clearTable wX4_clearTable (d + 1) o_no [.ref 157] o_N (o_mem g) 0 0 (o_mt (none) (fun g' => o_tb g' t_0 ∧ o_fr (fun a => a = 158) g g')) := by
  refine o_Ct.ofV hl mX4_clearTable (by decide +kernel) rfl rfl rfl (Nat.le_of_ble_eq_true rfl) ?_
  have key := o_lp (fun i => 1 ≤ i → ∀ g1, (∀ s, s < i → g1 158 s = t_0 s) → o_fr (fun a => a = 158) g g1 → o_V l mX4_clearTable (d + 1) o_no (o_mt (none) (fun g' => o_tb g' t_0 ∧ o_fr (fun a => a = 158) g g')) 9 [(0, .ref 157), (1, .int (o_I (i : Int)))] [] o_N (o_mem g1) 0 0) 25 (fun i hi ih hi1 g1 h1 f1 => by
    have ih := fun q => ih q (by omega)
    refine o_iload_n dX4_clearTable_9 rfl ?_
    refine o_aload_n dX4_clearTable_10 rfl ?_
    refine o_gf dX4_clearTable_11 fl_X4_9 rfl (by decide) rfl ?_
    refine o_alen dX4_clearTable_14 (by decide) rfl rfl ?_
    refine o_icmp_ge (tgt := 31) dX4_clearTable_15 (by decide) ⟨by omega, by omega⟩ ⟨by omega, by omega⟩ (fun c_15 => ?_) (fun c_15 => ?_)
    · skip
      refine o_ret0 dX4_clearTable_31 trivial ?_
      exact o_mt0 ⟨fun s hs => h1 s (by omega), f1⟩
    · skip
      refine o_aload_n dX4_clearTable_18 rfl ?_
      refine o_gf dX4_clearTable_19 fl_X4_9 rfl (by decide) rfl ?_
      refine o_iload_n dX4_clearTable_22 rfl ?_
      refine o_iconst dX4_clearTable_23 ?_
      refine o_iaEn (j := i) dX4_clearTable_24 rfl (by decide) (by decide) rfl (by omega) (fun _ => rfl) (by decide) (fun g_24 e_24 => ?_)
      refine o_iinc dX4_clearTable_25 rfl (by decide) ?_
      refine o_goto (tgt := 9) dX4_clearTable_28 (by decide) ?_
      refine o_loc [(0, .ref 157), (1, .int (o_I ((i + 1 : Nat) : Int)))] rfl (ih (by omega) g_24 (fun s hs => ?_) (o_fr_e' f1 e_24 rfl))
      by_cases q : s = i
      · subst q; rw [e_24, o_e_s]; unfold t_0; rw [if_neg (by omega)]
      · rw [e_24, o_e_k q]; exact h1 s (by omega))
  refine o_aload_n dX4_clearTable_0 rfl ?_
  refine o_gf dX4_clearTable_1 fl_X4_9 rfl (by decide) rfl ?_
  refine o_iconst dX4_clearTable_4 ?_
  refine o_iconst dX4_clearTable_5 ?_
  refine o_iaEn (j := 0) dX4_clearTable_6 rfl (by decide) (by decide) rfl (by omega) (fun _ => rfl) (by decide) (fun g_6 e_6 => ?_)
  refine o_iconst dX4_clearTable_7 ?_
  refine o_istore_n dX4_clearTable_8 (by decide) ?_
  exact o_loc _ rfl (key 1 (by decide) (by decide) g_6 (fun s hs => by rw [show s = 0 by omega, e_6, o_e_s]; rfl) (o_fr_e' o_fr_r e_6 rfl))
set_option maxRecDepth 100000 in
set_option maxHeartbeats 4000000 in
/-- enterInTable(v) -/
theorem ct_X4_enterInTable {l : Launch} (hl : l.stackTraces = false) (d : Nat) (g : Nat → Nat → Int) (T : Nat → Int) (h0 : o_tb g T) (hT : ∀ s, -1 ≤ T s ∧ T s ≤ 100) (v : Nat) (hv : 1 ≤ v ∧ v ≤ 3) : o_Ct l yX4_enterInTable wX4_enterInTable (d + 1) o_no [.ref 157, .int (o_I (v : Int))] o_N (o_mem g) 0 0 (o_mt (none) (fun g' => o_tb g' (t_up T v) ∧ o_fr (fun a => a = 158) g g')) := by
  refine o_Ct.ofV hl mX4_enterInTable (by decide +kernel) rfl rfl rfl (Nat.le_of_ble_eq_true rfl) ?_
  have key := o_lp (fun i => ∀ k : Nat, k + i = 24 → ∀ g1, (∀ s, s < 25 → g1 158 s = if k < s then t_up T v s else T s) → o_fr (fun a => a = 158) g g1 → o_V l mX4_enterInTable (d + 1) o_no (o_mt (none) (fun g' => o_tb g' (t_up T v) ∧ o_fr (fun a => a = 158) g g')) 8 [(0, .ref 157), (1, .int (o_I (v : Int))), (2, .int (o_I ((k : Nat) : Int)))] [] o_N (o_mem g1) 0 0) (25 - v) (fun i hi ih k hk g1 h1 f1 => by
    refine o_iload_n dX4_enterInTable_8 rfl ?_
    refine o_iload_n dX4_enterInTable_9 rfl ?_
    refine o_icmp_lt (tgt := 65) dX4_enterInTable_10 (by decide) ⟨by omega, by omega⟩ ⟨by omega, by omega⟩ (fun c_10 => ?_) (fun c_10 => ?_)
    · skip
      refine o_ret0 dX4_enterInTable_65 trivial ?_
      first
        | (exfalso; omega)
        | (refine o_mt0 ⟨fun s hs => ?_, f1⟩
           rw [h1 s hs]
           by_cases q : k < s
           · rw [if_pos q]
           · rw [if_neg q, t_up, if_neg (fun z => by omega)])
    · skip
      refine o_iload_n dX4_enterInTable_13 rfl ?_
      refine o_if_lt (tgt := 65) dX4_enterInTable_14 (by decide) ⟨by omega, by omega⟩ (fun c_14 => ?_) (fun c_14 => ?_)
      · skip
        refine o_ret0 dX4_enterInTable_65 trivial ?_
        first
          | (exfalso; omega)
          | (refine o_mt0 ⟨fun s hs => ?_, f1⟩
             rw [h1 s hs]
             by_cases q : k < s
             · rw [if_pos q]
             · rw [if_neg q, t_up, if_neg (fun z => by omega)])
      · skip
        refine o_iload_n dX4_enterInTable_17 rfl ?_
        refine o_iload_n dX4_enterInTable_18 rfl ?_
        refine o_isub dX4_enterInTable_19 ?_
        rw [show (k : Int) - (v : Int) = ((k - v : Nat) : Int) by omega]
        refine o_istore_n dX4_enterInTable_20 (by decide) ?_
        refine o_iload_n dX4_enterInTable_21 rfl ?_
        refine o_iload_n dX4_enterInTable_22 rfl ?_
        refine o_icmp_ge (tgt := 59) dX4_enterInTable_23 (by decide) ⟨by omega, by omega⟩ ⟨by omega, by omega⟩ (fun c_23 => ?_) (fun c_23 => ?_)
        · skip
          refine o_iinc dX4_enterInTable_59 rfl (by decide) ?_
          refine o_goto (tgt := 8) dX4_enterInTable_62 (by decide) ?_
          exfalso
          omega
        · skip
          refine o_aload_n dX4_enterInTable_26 rfl ?_
          refine o_gf dX4_enterInTable_27 fl_X4_9 rfl (by decide) rfl ?_
          refine o_iload_n dX4_enterInTable_30 rfl ?_
          have hkv := h1 (k - v) (by omega)
          rw [if_neg (by omega)] at hkv
          have hkk := h1 k (by omega)
          rw [if_neg (by omega)] at hkk
          have hT1 := hT (k - v)
          have hT2 := hT k
          refine o_ialdn (j := (k - v)) dX4_enterInTable_31 (by decide) rfl (by decide) rfl (by omega) ?_
          refine o_iconst dX4_enterInTable_32 ?_
          refine o_icmp_eq (tgt := 59) dX4_enterInTable_33 (by decide) ⟨by omega, by omega⟩ ⟨by omega, by omega⟩ (fun c_33 => ?_) (fun c_33 => ?_)
          · skip
            refine o_iinc dX4_enterInTable_59 rfl (by decide) ?_
            refine o_goto (tgt := 8) dX4_enterInTable_62 (by decide) ?_
            refine o_loc [(0, .ref 157), (1, .int (o_I (v : Int))), (2, .int (o_I (((k - 1) : Nat) : Int)))] (by rw [show ((k : Int) + -1) = ((k - 1 : Nat) : Int) by omega]; rfl) (ih (by omega) (k - 1) (by omega) g1 (fun s hs => ?_) f1)
            by_cases q : s = k
            · subst q
              rw [if_pos (by omega), h1 s hs, if_neg (by omega), t_up, if_neg (fun z => z.2 (by omega))]
            · rw [h1 s hs]
              by_cases q2 : k < s
              · rw [if_pos q2, if_pos (by omega)]
              · rw [if_neg q2, if_neg (by omega)]
          · skip
            refine o_aload_n dX4_enterInTable_36 rfl ?_
            refine o_gf dX4_enterInTable_37 fl_X4_9 rfl (by decide) rfl ?_
            refine o_iload_n dX4_enterInTable_40 rfl ?_
            refine o_aload_n dX4_enterInTable_41 rfl ?_
            refine o_gf dX4_enterInTable_42 fl_X4_9 rfl (by decide) rfl ?_
            refine o_iload_n dX4_enterInTable_45 rfl ?_
            refine o_ialdn (j := k) dX4_enterInTable_46 (by decide) rfl (by decide) rfl (by omega) ?_
            refine o_aload_n dX4_enterInTable_47 rfl ?_
            refine o_gf dX4_enterInTable_48 fl_X4_9 rfl (by decide) rfl ?_
            refine o_iload_n dX4_enterInTable_51 rfl ?_
            refine o_ialdn (j := (k - v)) dX4_enterInTable_52 (by decide) rfl (by decide) rfl (by omega) ?_
            refine o_iconst dX4_enterInTable_53 ?_
            refine o_iadd dX4_enterInTable_54 ?_
            refine o_mmax dX4_enterInTable_55 ml_X4_54 o_maxS.1 o_maxS.2.1 o_maxS.2.2 ⟨by omega, by omega⟩ ⟨by omega, by omega⟩ (Nat.le_of_ble_eq_true rfl) ?_
            refine o_iaEn (j := k) dX4_enterInTable_58 rfl (by decide) (by decide) rfl (by omega) (fun _ => rfl) (by decide) (fun g_58 e_58 => ?_)
            refine o_iinc dX4_enterInTable_59 rfl (by decide) ?_
            refine o_goto (tgt := 8) dX4_enterInTable_62 (by decide) ?_
            refine o_loc [(0, .ref 157), (1, .int (o_I (v : Int))), (2, .int (o_I (((k - 1) : Nat) : Int)))] (by rw [show ((k : Int) + -1) = ((k - 1 : Nat) : Int) by omega]; rfl) (ih (by omega) (k - 1) (by omega) g_58 (fun s hs => ?_) (o_fr_e' f1 e_58 rfl))
            by_cases q : s = k
            · subst q
              rw [if_pos (by omega), e_58, o_e_s, hkk, hkv, t_up, if_pos ⟨by omega, by omega⟩]
            · rw [e_58, o_e_k q, h1 s hs]
              by_cases q2 : k < s
              · rw [if_pos q2, if_pos (by omega)]
              · rw [if_neg q2, if_neg (by omega)])
  refine o_aload_n dX4_enterInTable_0 rfl ?_
  refine o_gf dX4_enterInTable_1 fl_X4_9 rfl (by decide) rfl ?_
  refine o_alen dX4_enterInTable_4 (by decide) rfl rfl ?_
  refine o_iconst dX4_enterInTable_5 ?_
  refine o_isub dX4_enterInTable_6 ?_
  refine o_istore_n dX4_enterInTable_7 (by decide) ?_
  exact o_loc _ rfl (key 0 (Nat.zero_le _) 24 rfl g (fun s hs => by rw [if_neg (by omega)]; exact h0 s hs) o_fr_r)
set_option maxRecDepth 100000 in
set_option maxHeartbeats 4000000 in
/-- mostLampsByTable(state) -/
theorem ct_X4_mostLampsByTable {l : Launch} (hl : l.stackTraces = false) (d : Nat) (g : Nat → Nat → Int) (M : Nat → Nat → Int) (hst : o_st g M) (hwk : o_wk M) : o_Ct l yX4_mostLampsByTable wX4_mostLampsByTable (d + 2) o_no [.ref 157, .ref 1] o_N (o_mem g) 0 0 (o_mt (some (.int (o_I (t_max (t_tb M (M 0 1).toNat) (min 25 (M 0 2 + 1).toNat))))) (fun g' => o_fr (fun a => a = 158) g g')) := by
  refine o_Ct.ofV hl mX4_mostLampsByTable (by decide +kernel) rfl rfl rfl (Nat.le_of_ble_eq_true rfl) ?_
  obtain ⟨hrs, hrl, hrq, hg3, hg4, hg5, hg6⟩ := id hst
  obtain ⟨hws, hwl, hwq, hwo, hwle, hwrq, hwrd⟩ := id hwk
  have hs0 := hrs.1
  have hl0 := hrl.1
  have hq0 := hrq.1
  have hs1 := o_rs2 hrs
  have hl1 := o_rl6 hrl
  have hq1 := o_rq12 hrq
  obtain ⟨hw1, hw2, hw3⟩ := id hws
  obtain ⟨hw4, hw5, hw6, hw7, hw8⟩ := id hwl
  obtain ⟨hw9, hw10, hw11⟩ := id hwq
  have keyS := fun (g1 : Nat → Nat → Int) (h1 : o_st g1 M) (ht : o_tb g1 (t_tb M (M 0 1).toNat)) (f1 : o_fr (fun a => a = 158) g g1) => o_lp (fun s => o_V l mX4_mostLampsByTable (d + 2) o_no (o_mt (some (.int (o_I (t_max (t_tb M (M 0 1).toNat) (min 25 (M 0 2 + 1).toNat))))) (fun g' => o_fr (fun a => a = 158) g g')) 51 [(0, .ref 157), (1, .ref 1), (2, .int (o_I (t_max (t_tb M (M 0 1).toNat) s))), (3, .int (o_I ((s : Nat) : Int)))] [] o_N (o_mem g1) 0 0) (min 25 (M 0 2 + 1).toNat) (fun s hi ih => by
    have hg13 := o_st_oil h1
    refine o_iload_n dX4_mostLampsByTable_51 rfl ?_
    refine o_aload_n dX4_mostLampsByTable_52 rfl ?_
    refine o_gf dX4_mostLampsByTable_53 fl_X4_9 rfl (by decide) rfl ?_
    refine o_alen dX4_mostLampsByTable_56 (by decide) rfl rfl ?_
    refine o_icmp_ge (tgt := 85) dX4_mostLampsByTable_57 (by decide) ⟨by omega, by omega⟩ ⟨by omega, by omega⟩ (fun c_57 => ?_) (fun c_57 => ?_)
    · skip
      refine o_iload_n dX4_mostLampsByTable_85 rfl ?_
      refine o_ret1 dX4_mostLampsByTable_86 trivial ?_
      rw [show s = min 25 (M 0 2 + 1).toNat by omega]
      exact o_mtI rfl f1
    · skip
      have hs25 : s < 25 := by omega
      refine o_iload_n dX4_mostLampsByTable_60 rfl ?_
      refine o_aload_n dX4_mostLampsByTable_61 rfl ?_
      refine o_gf dX4_mostLampsByTable_62 fl_X4_15 rfl (by decide) rfl ?_
      refine o_icmp_gt (tgt := 85) dX4_mostLampsByTable_65 (by decide) ⟨by omega, by omega⟩ ⟨by omega, by omega⟩ (fun c_65 => ?_) (fun c_65 => ?_)
      · skip
        refine o_iload_n dX4_mostLampsByTable_85 rfl ?_
        refine o_ret1 dX4_mostLampsByTable_86 trivial ?_
        rw [show s = min 25 (M 0 2 + 1).toNat by omega]
        exact o_mtI rfl f1
      · skip
        refine o_iload_n dX4_mostLampsByTable_68 rfl ?_
        refine o_aload_n dX4_mostLampsByTable_69 rfl ?_
        refine o_gf dX4_mostLampsByTable_70 fl_X4_9 rfl (by decide) rfl ?_
        refine o_iload_n dX4_mostLampsByTable_73 rfl ?_
        have hts := ht s hs25
        have hTR := t_tb_R M (M 0 1).toNat s
        have hTM := t_max_R (T := t_tb M (M 0 1).toNat) (m := ((M 0 1).toNat : Int)) (by omega) (fun s => (t_tb_R M _ s).2) s
        refine o_ialdn (j := s) dX4_mostLampsByTable_74 (by decide) rfl (by decide) rfl (by omega) ?_
        refine o_mmax dX4_mostLampsByTable_75 ml_X4_54 o_maxS.1 o_maxS.2.1 o_maxS.2.2 ⟨by omega, by omega⟩ ⟨by omega, by omega⟩ (Nat.le_of_ble_eq_true rfl) ?_
        rw [hts]
        refine o_istore_n dX4_mostLampsByTable_78 (by decide) ?_
        refine o_iinc dX4_mostLampsByTable_79 rfl (by decide) ?_
        refine o_goto (tgt := 51) dX4_mostLampsByTable_82 (by decide) ?_
        exact o_loc [(0, .ref 157), (1, .ref 1), (2, .int (o_I (t_max (t_tb M (M 0 1).toNat) (s + 1)))), (3, .int (o_I (((s + 1) : Nat) : Int)))] rfl (ih (by omega)))
  have key := o_lp (fun i => ∀ g1, o_st g1 M → o_tb g1 (t_tb M i) → o_fr (fun a => a = 158) g g1 → o_V l mX4_mostLampsByTable (d + 2) o_no (o_mt (some (.int (o_I (t_max (t_tb M (M 0 1).toNat) (min 25 (M 0 2 + 1).toNat))))) (fun g' => o_fr (fun a => a = 158) g g')) 6 [(0, .ref 157), (1, .ref 1), (2, .int (o_I ((i : Nat) : Int)))] [] o_N (o_mem g1) 0 0) (M 0 1).toNat (fun i hi ih g1 h1 ht1 f1 => by
    obtain ⟨hrs, hrl, hrq, hg3, hg4, hg5, hg6⟩ := id h1
    obtain ⟨hws, hwl, hwq, hwo, hwle, hwrq, hwrd⟩ := id hwk
    have hs0 := hrs.1
    have hl0 := hrl.1
    have hq0 := hrq.1
    have hs1 := o_rs2 hrs
    have hl1 := o_rl6 hrl
    have hq1 := o_rq12 hrq
    obtain ⟨hw1, hw2, hw3⟩ := id hws
    obtain ⟨hw4, hw5, hw6, hw7, hw8⟩ := id hwl
    obtain ⟨hw9, hw10, hw11⟩ := id hwq
    refine o_iload_n dX4_mostLampsByTable_6 rfl ?_
    refine o_aload_n dX4_mostLampsByTable_7 rfl ?_
    refine o_gf dX4_mostLampsByTable_8 fl_X4_21 rfl (by decide) rfl ?_
    refine o_gf dX4_mostLampsByTable_11 fl_X4_37 rfl (by decide) rfl ?_
    refine o_icmp_ge (tgt := 47) dX4_mostLampsByTable_14 (by decide) ⟨by omega, by omega⟩ ⟨by omega, by omega⟩ (fun c_14 => ?_) (fun c_14 => ?_)
    · skip
      refine o_iconst dX4_mostLampsByTable_47 ?_
      refine o_istore_n dX4_mostLampsByTable_48 (by decide) ?_
      refine o_iconst dX4_mostLampsByTable_49 ?_
      refine o_istore_n dX4_mostLampsByTable_50 (by decide) ?_
      rw [show i = (M 0 1).toNat by omega] at ht1
      exact o_loc _ rfl (keyS g1 h1 ht1 f1 0 (Nat.zero_le _))
    · skip
      have hi9 : (i : Int) < M 0 1 := by omega
      have hb8 := hw8 i hi9
      have hl8 := hl1 i hi9
      refine o_aload_n dX4_mostLampsByTable_17 rfl ?_
      refine o_gf dX4_mostLampsByTable_18 fl_X4_21 rfl (by decide) rfl ?_
      refine o_iload_n dX4_mostLampsByTable_21 rfl ?_
      refine o_cV _ (ct_isTakenN hl d g1 M hrl hwl i hi9) dX4_mostLampsByTable_22 ml_X4_40 yw_X7_isTaken rfl (by decide) (by omega) (by decide) rfl rfl rfl (Nat.le_of_ble_eq_true rfl) ?_
      refine o_ifb_eq (tgt := 41) dX4_mostLampsByTable_25 (by decide) (fun c_25 => ?_) (fun c_25 => ?_)
      · skip
        refine o_iinc dX4_mostLampsByTable_41 rfl (by decide) ?_
        refine o_goto (tgt := 6) dX4_mostLampsByTable_44 (by decide) ?_
        exact o_loc [(0, .ref 157), (1, .ref 1), (2, .int (o_I (((i + 1) : Nat) : Int)))] rfl (ih (by omega) g1 h1 (by simp only [t_tb]; rw [if_neg c_25]; exact ht1) f1)
      · skip
        refine o_aload_n dX4_mostLampsByTable_28 rfl ?_
        refine o_aload_n dX4_mostLampsByTable_29 rfl ?_
        refine o_gf dX4_mostLampsByTable_30 fl_X4_21 rfl (by decide) rfl ?_
        refine o_gf dX4_mostLampsByTable_33 fl_X4_44 rfl (by decide) rfl ?_
        refine o_iload_n dX4_mostLampsByTable_36 rfl ?_
        refine o_ialdn (j := i) dX4_mostLampsByTable_37 (by decide) rfl (by decide) rfl (by omega) ?_
        rw [show g1 7 i = (((M 4 i).toNat : Nat) : Int) by omega]
        refine o_cVm _ (ct_X4_enterInTable hl d g1 (t_tb M i) ht1 (fun s => by have := t_tb_R M i s; omega) (M 4 i).toNat (by omega)) dX4_mostLampsByTable_38 ml_X4_50 yw_X4_enterInTable rfl (by decide) (by omega) (by decide) rfl rfl rfl (Nat.le_of_ble_eq_true rfl) (fun g_38 q_38 => ?_)
        refine o_iinc dX4_mostLampsByTable_41 rfl (by decide) ?_
        refine o_goto (tgt := 6) dX4_mostLampsByTable_44 (by decide) ?_
        exact o_loc [(0, .ref 157), (1, .ref 1), (2, .int (o_I (((i + 1) : Nat) : Int)))] rfl (ih (by omega) g_38 (o_st_fr h1 q_38.2 (fun a _ _ => by omega)) (by simp only [t_tb]; rw [if_pos c_25]; exact q_38.1) (o_fr_t f1 q_38.2)))
  refine o_aload_n dX4_mostLampsByTable_0 rfl ?_
  refine o_cVm _ (ct_X4_clearTable hl d g) dX4_mostLampsByTable_1 ml_X4_47 yw_X4_clearTable rfl (by decide) (by omega) (by decide) rfl rfl rfl (Nat.le_of_ble_eq_true rfl) (fun g_1 q_1 => ?_)
  refine o_iconst dX4_mostLampsByTable_4 ?_
  refine o_istore_n dX4_mostLampsByTable_5 (by decide) ?_
  exact o_loc _ rfl (key 0 (Nat.zero_le _) g_1 (o_st_fr hst q_1.2 (fun a _ _ => by omega)) q_1.1 q_1.2)
